def wi_X10_putBytes : List Nat := [65, 1151]
def wr_X10_putBytes : List Nat := []
set_option maxHeartbeats 4000000 in
theorem k_X10_putBytes {l : Launch} {T : Nat → Nat} {cn : Nat} {K N : Nat → Nat} {I0 : cz_I} {R0 : cz_R} {L0 : cz_L} {d : Int} (hW0 : Wf T cn K N I0 R0 d) {a0 : Nat} (ta0 : T a0 = 1) {x1 : Int32} (pre0 : (I0 a0 1).toInt ≤ 896) : ConE l mX10_putBytes [.ref a0, .int x1] cn K N I0 R0 L0 (ca_v (fun cn' K' N' I' R' L' => cn = cn' ∧ K = K' ∧ N = N' ∧ R0 = R' ∧ L0 = L' ∧ St T cn K N d wi_X10_putBytes wr_X10_putBytes I0 R0 I' R0 ∧ ((I' a0 1).toInt = (I0 a0 1).toInt + 4) ∧ True)) := by
  refine ConE.of (by decide +kernel) rfl (Nat.le_of_ble_eq_true rfl) rfl (fun X hX hZ hE => ?_)
  subst hX
  have hS0 : St T cn K N d wi_X10_putBytes wr_X10_putBytes I0 R0 I0 R0 := St.rf0 hW0
  obtain ⟨v1, c2⟩ : ∃ v, I0 a0 1 = v := ⟨_, rfl⟩
  have b3 := iv1_1 hS0.1 ta0 c2
  have p4 := pre0
  rw [c2] at p4
  refine q_bipush dX10_putBytes_0 (by decide +kernel) ?_
  intro v5 h6
  refine tr_istore_n dX10_putBytes_2 (by decide) (by decide) ?_
  have lp18 : ∀ (fu : Nat) (ls : Nat → Option Value) (v7 : Int32) (I11 : cz_I) (v13 : Int32), ls 0 = some (.ref a0) → ls 1 = some (.int x1) → ls 2 = some (.int v7) → St T cn K N d wi_X10_putBytes wr_X10_putBytes I0 R0 I11 R0 → I11 a0 1 = v13 → v7.toInt ≤ 24 → -8 ≤ v7.toInt → 8 * v13.toInt + v7.toInt = 8 * v1.toInt + 24 → (v7.toInt + 8).toNat < fu → Tr X mX10_putBytes 3 ls [] cn K N I11 R0 L0 0 0 := by
    intro fu
    induction fu with
    | zero => intros; rename_i hz; exact absurd hz (Nat.not_lt_zero _)
    | succ fu ih18 =>
      intro ls v7 I11 v13 hl8 hl9 hl10 hS12 c14 g15 g16 g17 hm18
      have b20 := iv1_1 hS12.1 ta0 c14
      refine tr_iload_n dX10_putBytes_3 hl10 ?_
      refine q_if_lt 36 dX10_putBytes_4 (by decide) (fun h21 => ?_) (fun h21 => ?_)
      · skip
        exact tr_vret hZ dX10_putBytes_36 rfl (by decide) (by decide) ⟨rfl, rfl, rfl, rfl, rfl, rfl, hS12, (by (try rw [c14]); (try rw [c2]); (try omega)), trivial⟩
      · skip
        refine tr_aload_n dX10_putBytes_7 hl8 ?_
        obtain ⟨a22, d23, ta22⟩ := rf1_0 hW0 ta0
        refine tr_getR dX10_putBytes_8 fl10_9 (kR1 hS12.1 ta0) d23 ?_
        refine tr_aload_n dX10_putBytes_11 hl8 ?_
        refine q_getI dX10_putBytes_12 fl10_71 (kR1 hS12.1 ta0) c14 ?_
        refine tr_iload_n dX10_putBytes_15 hl9 ?_
        refine tr_iload_n dX10_putBytes_16 hl10 ?_
        refine q_ishr dX10_putBytes_17 ?_
        intro v24
        refine q_i2b dX10_putBytes_18 ?_
        intro v25
        refine q_bast dX10_putBytes_19 (kR17 hS12.1 ta22) (ti_in (nR17 hS12.1 ta22) (by omega) (by omega)) hS12 ta22 rfl rfl (by rfl) ?_
        intro I26 hS27 f28
        have c30 : I26 a0 1 = v13 := (f28 _ _ (fun q => by have z := ta0; rw [q.1, ta22] at z; exact absurd z (by decide))).trans c14
        refine tr_aload_n dX10_putBytes_20 hl8 ?_
        refine tr_dup dX10_putBytes_21 rfl ?_
        refine q_getI dX10_putBytes_22 fl10_71 (kR1 hS27.1 ta0) c30 ?_
        refine q_iconst dX10_putBytes_25 (by decide) ?_
        intro v31 h32
        refine q_iaddE dX10_putBytes_26 (by intros; omega) ?_
        intro v33 h34
        refine q_putI dX10_putBytes_27 fl10_71 (kR1 hS27.1 ta0) (Or.inl rfl) hS27 ta0 (by show (0 : Int) ≤ v33.toInt ∧ v33.toInt ≤ (900 : Int); omega) rfl (by decide +kernel) ?_
        intro I35 hS36 e37 f38
        refine q_iincE dX10_putBytes_30 hl10 (by decide) (by decide) (by intros; omega) ?_
        intro v39 h40
        refine tr_goto 3 dX10_putBytes_33 (by decide) ?_
        exact ih18 _ v39 I35 v33 hl8 hl9 rfl hS36 e37 (by omega) (by omega) (by omega) (by omega)
  exact lp18 _ _ v5 I0 v1 rfl rfl rfl hS0 c2 (by omega) (by omega) (by omega) (Nat.lt_succ_self _)
def wi_X10_feed : List Nat := [65, 1151]
def wr_X10_feed : List Nat := []
set_option maxHeartbeats 4000000 in
theorem k_X10_feed {l : Launch} {T : Nat → Nat} {cn : Nat} {K N : Nat → Nat} {I0 : cz_I} {R0 : cz_R} {L0 : cz_L} {d : Int} (hW0 : Wf T cn K N I0 R0 d) {a0 : Nat} (ta0 : T a0 = 1) {x1 : Int32} {x2 : Int32} {x3 : Int32} {x4 : Int32} {x5 : Int32} : ConE l mX10_feed [.ref a0, .int x1, .int x2, .int x3, .int x4, .int x5] cn K N I0 R0 L0 (ca_i (fun v cn' K' N' I' R' L' => cn = cn' ∧ K = K' ∧ N = N' ∧ R0 = R' ∧ L0 = L' ∧ St T cn K N d wi_X10_feed wr_X10_feed I0 R0 I' R0 ∧ (((I0 a0 1).toInt + 20 > 900 → (v.toInt = -1 ∧ (I' a0 1).toInt = (I0 a0 1).toInt))) ∧ (((I0 a0 1).toInt + 20 ≤ 900 → (v.toInt = (I0 a0 1).toInt + 20 ∧ (I' a0 1).toInt = (I0 a0 1).toInt + 20))) ∧ True)) := by
  refine ConE.of (by decide +kernel) rfl (Nat.le_of_ble_eq_true rfl) rfl (fun X hX hZ hE => ?_)
  subst hX
  have hS0 : St T cn K N d wi_X10_feed wr_X10_feed I0 R0 I0 R0 := St.rf0 hW0
  obtain ⟨v1, c2⟩ : ∃ v, I0 a0 1 = v := ⟨_, rfl⟩
  have b3 := iv1_1 hS0.1 ta0 c2
  refine tr_aload_n dX10_feed_0 rfl ?_
  refine q_getI dX10_feed_1 fl10_71 (kR1 hS0.1 ta0) c2 ?_
  refine q_bipush dX10_feed_4 (by decide +kernel) ?_
  intro v4 h5
  refine q_iaddE dX10_feed_6 (by intros; omega) ?_
  intro v6 h7
  refine q_sipush dX10_feed_7 (by decide +kernel) ?_
  intro v8 h9
  refine q_icmp_le 15 dX10_feed_10 (by decide) (fun h10 => ?_) (fun h10 => ?_)
  · skip
    refine tr_aload_n dX10_feed_15 rfl ?_
    refine tr_iload_n dX10_feed_16 rfl ?_
    refine q_callVv hE (M' := mX10_putBytes) (as := [_]) dX10_feed_17 lk10_75 inX10_putBytes seX10_putBytes myX10_putBytes (by decide) ⟨by decide, by decide⟩ rfl (kR1 hS0.1 ta0) (Nat.le_of_ble_eq_true rfl) rfl rfl (by decide) (by decide) (k_X10_putBytes hS0.1 ta0 (by (try rw [c2]); (try omega))) ?_
    rintro cn' K' N' I11 R12 L13 ⟨rfl, rfl, rfl, rfl, rfl, g14, p16, -⟩
    have hS17 := hS0.tr g14 (by decide +kernel) (by decide +kernel)
    obtain ⟨v18, c19⟩ : ∃ v, I11 a0 1 = v := ⟨_, rfl⟩
    have b20 := iv1_1 hS17.1 ta0 c19
    rw [c19] at p16
    rw [c2] at p16
    refine tr_aload_n dX10_feed_20 rfl ?_
    refine tr_iload_n dX10_feed_21 rfl ?_
    refine q_callVv hE (M' := mX10_putBytes) (as := [_]) dX10_feed_22 lk10_75 inX10_putBytes seX10_putBytes myX10_putBytes (by decide) ⟨by decide, by decide⟩ rfl (kR1 hS17.1 ta0) (Nat.le_of_ble_eq_true rfl) rfl rfl (by decide) (by decide) (k_X10_putBytes hS17.1 ta0 (by (try rw [c19]); (try omega))) ?_
    rintro cn' K' N' I21 R22 L23 ⟨rfl, rfl, rfl, rfl, rfl, g24, p26, -⟩
    have hS27 := hS17.tr g24 (by decide +kernel) (by decide +kernel)
    obtain ⟨v28, c29⟩ : ∃ v, I21 a0 1 = v := ⟨_, rfl⟩
    have b30 := iv1_1 hS27.1 ta0 c29
    rw [c29] at p26
    rw [c19] at p26
    refine tr_aload_n dX10_feed_25 rfl ?_
    refine tr_iload_n dX10_feed_26 rfl ?_
    refine q_callVv hE (M' := mX10_putBytes) (as := [_]) dX10_feed_27 lk10_75 inX10_putBytes seX10_putBytes myX10_putBytes (by decide) ⟨by decide, by decide⟩ rfl (kR1 hS27.1 ta0) (Nat.le_of_ble_eq_true rfl) rfl rfl (by decide) (by decide) (k_X10_putBytes hS27.1 ta0 (by (try rw [c29]); (try omega))) ?_
    rintro cn' K' N' I31 R32 L33 ⟨rfl, rfl, rfl, rfl, rfl, g34, p36, -⟩
    have hS37 := hS27.tr g34 (by decide +kernel) (by decide +kernel)
    obtain ⟨v38, c39⟩ : ∃ v, I31 a0 1 = v := ⟨_, rfl⟩
    have b40 := iv1_1 hS37.1 ta0 c39
    rw [c39] at p36
    rw [c29] at p36
    refine tr_aload_n dX10_feed_30 rfl ?_
    refine tr_iload dX10_feed_31 rfl ?_
    refine q_callVv hE (M' := mX10_putBytes) (as := [_]) dX10_feed_33 lk10_75 inX10_putBytes seX10_putBytes myX10_putBytes (by decide) ⟨by decide, by decide⟩ rfl (kR1 hS37.1 ta0) (Nat.le_of_ble_eq_true rfl) rfl rfl (by decide) (by decide) (k_X10_putBytes hS37.1 ta0 (by (try rw [c39]); (try omega))) ?_
    rintro cn' K' N' I41 R42 L43 ⟨rfl, rfl, rfl, rfl, rfl, g44, p46, -⟩
    have hS47 := hS37.tr g44 (by decide +kernel) (by decide +kernel)
    obtain ⟨v48, c49⟩ : ∃ v, I41 a0 1 = v := ⟨_, rfl⟩
    have b50 := iv1_1 hS47.1 ta0 c49
    rw [c49] at p46
    rw [c39] at p46
    refine tr_aload_n dX10_feed_36 rfl ?_
    refine tr_iload dX10_feed_37 rfl ?_
    refine q_callVv hE (M' := mX10_putBytes) (as := [_]) dX10_feed_39 lk10_75 inX10_putBytes seX10_putBytes myX10_putBytes (by decide) ⟨by decide, by decide⟩ rfl (kR1 hS47.1 ta0) (Nat.le_of_ble_eq_true rfl) rfl rfl (by decide) (by decide) (k_X10_putBytes hS47.1 ta0 (by (try rw [c49]); (try omega))) ?_
    rintro cn' K' N' I51 R52 L53 ⟨rfl, rfl, rfl, rfl, rfl, g54, p56, -⟩
    have hS57 := hS47.tr g54 (by decide +kernel) (by decide +kernel)
    obtain ⟨v58, c59⟩ : ∃ v, I51 a0 1 = v := ⟨_, rfl⟩
    have b60 := iv1_1 hS57.1 ta0 c59
    rw [c59] at p56
    rw [c49] at p56
    refine tr_aload_n dX10_feed_42 rfl ?_
    refine q_getI dX10_feed_43 fl10_71 (kR1 hS57.1 ta0) c59 ?_
    exact tr_iret hZ dX10_feed_46 rfl (by decide) (by decide) ⟨v58, rfl, rfl, rfl, rfl, rfl, rfl, hS57, (by (try rw [c2]); (try rw [c59]); (try omega)), (by (try rw [c2]); (try rw [c59]); (try omega)), trivial⟩
  · skip
    refine q_iconst dX10_feed_13 (by decide) ?_
    intro v61 h62
    exact tr_iret hZ dX10_feed_14 rfl (by decide) (by decide) ⟨v61, rfl, rfl, rfl, rfl, rfl, rfl, hS0, (by (try rw [c2]); (try omega)), (by (try rw [c2]); (try omega)), trivial⟩
def wi_X10_refused : List Nat := [81]
def wr_X10_refused : List Nat := []
set_option maxHeartbeats 4000000 in
theorem k_X10_refused {l : Launch} {T : Nat → Nat} {cn : Nat} {K N : Nat → Nat} {I0 : cz_I} {R0 : cz_R} {L0 : cz_L} {d : Int} (hW0 : Wf T cn K N I0 R0 d) {a0 : Nat} (ta0 : T a0 = 1) {x1 : Int32} : ConE l mX10_refused [.ref a0, .int x1] cn K N I0 R0 L0 (ca_i (fun v cn' K' N' I' R' L' => cn = cn' ∧ K = K' ∧ N = N' ∧ R0 = R' ∧ L0 = L' ∧ St T cn K N d wi_X10_refused wr_X10_refused I0 R0 I' R0 ∧ True)) := by
  refine ConE.of (by decide +kernel) rfl (Nat.le_of_ble_eq_true rfl) rfl (fun X hX hZ hE => ?_)
  subst hX
  have hS0 : St T cn K N d wi_X10_refused wr_X10_refused I0 R0 I0 R0 := St.rf0 hW0
  refine tr_aload_n dX10_refused_0 rfl ?_
  refine tr_iload_n dX10_refused_1 rfl ?_
  refine q_putI dX10_refused_2 fl10_112 (kR1 hS0.1 ta0) (Or.inl rfl) hS0 ta0 (iokF rfl) rfl (by decide +kernel) ?_
  intro I1 hS2 e3 f4
  refine q_iconst dX10_refused_5 (by decide) ?_
  intro v5 h6
  exact tr_iret hZ dX10_refused_6 rfl (by decide) (by decide) ⟨v5, rfl, rfl, rfl, rfl, rfl, rfl, hS2, trivial⟩
def wi_X0_clear : List Nat := [128, 129, 131, 133, 135, 137, 139, 141, 384]
def wr_X0_clear : List Nat := []
set_option maxHeartbeats 4000000 in
theorem k_X0_clear {l : Launch} {T : Nat → Nat} {cn : Nat} {K N : Nat → Nat} {I0 : cz_I} {R0 : cz_R} {L0 : cz_L} {d : Int} (hW0 : Wf T cn K N I0 R0 d) {a0 : Nat} (ta0 : T a0 = 2) : ConE l mX0_clear [.ref a0] cn K N I0 R0 L0 (ca_v (fun cn' K' N' I' R' L' => cn = cn' ∧ K = K' ∧ N = N' ∧ R0 = R' ∧ L0 = L' ∧ St T cn K N d wi_X0_clear wr_X0_clear I0 R0 I' R0 ∧ True)) := by
  refine ConE.of (by decide +kernel) rfl (Nat.le_of_ble_eq_true rfl) rfl (fun X hX hZ hE => ?_)
  subst hX
  have hS0 : St T cn K N d wi_X0_clear wr_X0_clear I0 R0 I0 R0 := St.rf0 hW0
  refine tr_aload_n dX0_clear_0 rfl ?_
  refine q_iconst dX0_clear_1 (by decide) ?_
  intro v1 h2
  refine q_putI dX0_clear_2 fl0_50 (kR2 hS0.1 ta0) (Or.inl rfl) hS0 ta0 (by show (0 : Int) ≤ v1.toInt ∧ v1.toInt ≤ (240 : Int); omega) rfl (by decide +kernel) ?_
  intro I3 hS4 e5 f6
  refine tr_aload_n dX0_clear_5 rfl ?_
  refine q_iconst dX0_clear_6 (by decide) ?_
  intro v7 h8
  refine q_putI dX0_clear_7 fl0_54 (kR2 hS4.1 ta0) (Or.inl rfl) hS4 ta0 (by show (0 : Int) ≤ v7.toInt ∧ v7.toInt ≤ (4 : Int); omega) rfl (by decide +kernel) ?_
  intro I9 hS10 e11 f12
  have c13 : I9 a0 0 = v1 := (f12 _ _ (fun q => absurd q.2 (by decide))).trans e5
  refine tr_aload_n dX0_clear_10 rfl ?_
  refine q_iconst dX0_clear_11 (by decide) ?_
  intro v14 h15
  refine q_putI dX0_clear_12 fl0_57 (kR2 hS10.1 ta0) (Or.inl rfl) hS10 ta0 (by show (0 : Int) ≤ v14.toInt ∧ v14.toInt ≤ (14 : Int); omega) rfl (by decide +kernel) ?_
  intro I16 hS17 e18 f19
  have c20 : I16 a0 0 = v1 := (f19 _ _ (fun q => absurd q.2 (by decide))).trans c13
  have c21 : I16 a0 1 = v7 := (f19 _ _ (fun q => absurd q.2 (by decide))).trans e11
  refine tr_aload_n dX0_clear_15 rfl ?_
  refine q_iconst dX0_clear_16 (by decide) ?_
  intro v22 h23
  refine q_putI dX0_clear_17 fl0_60 (kR2 hS17.1 ta0) (Or.inl rfl) hS17 ta0 (by show (0 : Int) ≤ v22.toInt ∧ v22.toInt ≤ (8 : Int); omega) rfl (by decide +kernel) ?_
  intro I24 hS25 e26 f27
  have c28 : I24 a0 0 = v1 := (f27 _ _ (fun q => absurd q.2 (by decide))).trans c20
  have c29 : I24 a0 1 = v7 := (f27 _ _ (fun q => absurd q.2 (by decide))).trans c21
  have c30 : I24 a0 3 = v14 := (f27 _ _ (fun q => absurd q.2 (by decide))).trans e18
  refine tr_aload_n dX0_clear_20 rfl ?_
  refine q_iconst dX0_clear_21 (by decide) ?_
  intro v31 h32
  refine q_putI dX0_clear_22 fl0_63 (kR2 hS25.1 ta0) (Or.inl rfl) hS25 ta0 (iokF rfl) rfl (by decide +kernel) ?_
  intro I33 hS34 e35 f36
  have c37 : I33 a0 0 = v1 := (f36 _ _ (fun q => absurd q.2 (by decide))).trans c28
  have c38 : I33 a0 1 = v7 := (f36 _ _ (fun q => absurd q.2 (by decide))).trans c29
  have c39 : I33 a0 3 = v14 := (f36 _ _ (fun q => absurd q.2 (by decide))).trans c30
  have c40 : I33 a0 5 = v22 := (f36 _ _ (fun q => absurd q.2 (by decide))).trans e26
  refine tr_aload_n dX0_clear_25 rfl ?_
  obtain ⟨a41, d42, ta41⟩ := rf2_8 hW0 ta0
  refine tr_getR dX0_clear_26 fl0_27 (kR2 hS34.1 ta0) d42 ?_
  refine q_iconst dX0_clear_29 (by decide) ?_
  intro v43 h44
  refine q_putI dX0_clear_30 fl0_66 (kR6 hS34.1 ta41) (Or.inl rfl) hS34 ta41 (by show (0 : Int) ≤ v43.toInt ∧ v43.toInt ≤ (8 : Int); omega) rfl (by decide +kernel) ?_
  intro I45 hS46 e47 f48
  have c49 : I45 a0 0 = v1 := (f48 _ _ (fun q => by have z := ta0; rw [q.1, ta41] at z; exact absurd z (by decide))).trans c37
  have c50 : I45 a0 1 = v7 := (f48 _ _ (fun q => absurd q.2 (by decide))).trans c38
  have c51 : I45 a0 3 = v14 := (f48 _ _ (fun q => absurd q.2 (by decide))).trans c39
  have c52 : I45 a0 5 = v22 := (f48 _ _ (fun q => absurd q.2 (by decide))).trans c40
  have c53 : I45 a0 7 = v31 := (f48 _ _ (fun q => absurd q.2 (by decide))).trans e35
  refine tr_aload_n dX0_clear_33 rfl ?_
  refine q_iconst dX0_clear_34 (by decide) ?_
  intro v54 h55
  refine q_putI dX0_clear_35 fl0_69 (kR2 hS46.1 ta0) (Or.inl rfl) hS46 ta0 (by show (0 : Int) ≤ v54.toInt ∧ v54.toInt ≤ (5 : Int); omega) rfl (by decide +kernel) ?_
  intro I56 hS57 e58 f59
  have c60 : I56 a0 0 = v1 := (f59 _ _ (fun q => absurd q.2 (by decide))).trans c49
  have c61 : I56 a0 1 = v7 := (f59 _ _ (fun q => absurd q.2 (by decide))).trans c50
  have c62 : I56 a0 3 = v14 := (f59 _ _ (fun q => absurd q.2 (by decide))).trans c51
  have c63 : I56 a0 5 = v22 := (f59 _ _ (fun q => absurd q.2 (by decide))).trans c52
  have c64 : I56 a0 7 = v31 := (f59 _ _ (fun q => absurd q.2 (by decide))).trans c53
  have c65 : I56 a41 0 = v43 := (f59 _ _ (fun q => absurd q.2 (by decide))).trans e47
  refine tr_aload_n dX0_clear_38 rfl ?_
  refine q_iconst dX0_clear_39 (by decide) ?_
  intro v66 h67
  refine q_putI dX0_clear_40 fl0_72 (kR2 hS57.1 ta0) (Or.inl rfl) hS57 ta0 (by show (0 : Int) ≤ v66.toInt ∧ v66.toInt ≤ (6 : Int); omega) rfl (by decide +kernel) ?_
  intro I68 hS69 e70 f71
  have c72 : I68 a0 0 = v1 := (f71 _ _ (fun q => absurd q.2 (by decide))).trans c60
  have c73 : I68 a0 1 = v7 := (f71 _ _ (fun q => absurd q.2 (by decide))).trans c61
  have c74 : I68 a0 3 = v14 := (f71 _ _ (fun q => absurd q.2 (by decide))).trans c62
  have c75 : I68 a0 5 = v22 := (f71 _ _ (fun q => absurd q.2 (by decide))).trans c63
  have c76 : I68 a0 7 = v31 := (f71 _ _ (fun q => absurd q.2 (by decide))).trans c64
  have c77 : I68 a41 0 = v43 := (f71 _ _ (fun q => absurd q.2 (by decide))).trans c65
  have c78 : I68 a0 9 = v54 := (f71 _ _ (fun q => absurd q.2 (by decide))).trans e58
  refine tr_aload_n dX0_clear_43 rfl ?_
  refine q_iconst dX0_clear_44 (by decide) ?_
  intro v79 h80
  refine q_putI dX0_clear_45 fl0_75 (kR2 hS69.1 ta0) (Or.inl rfl) hS69 ta0 (by show (0 : Int) ≤ v79.toInt ∧ v79.toInt ≤ (4 : Int); omega) rfl (by decide +kernel) ?_
  intro I81 hS82 e83 f84
  have c85 : I81 a0 0 = v1 := (f84 _ _ (fun q => absurd q.2 (by decide))).trans c72
  have c86 : I81 a0 1 = v7 := (f84 _ _ (fun q => absurd q.2 (by decide))).trans c73
  have c87 : I81 a0 3 = v14 := (f84 _ _ (fun q => absurd q.2 (by decide))).trans c74
  have c88 : I81 a0 5 = v22 := (f84 _ _ (fun q => absurd q.2 (by decide))).trans c75
  have c89 : I81 a0 7 = v31 := (f84 _ _ (fun q => absurd q.2 (by decide))).trans c76
  have c90 : I81 a41 0 = v43 := (f84 _ _ (fun q => absurd q.2 (by decide))).trans c77
  have c91 : I81 a0 9 = v54 := (f84 _ _ (fun q => absurd q.2 (by decide))).trans c78
  have c92 : I81 a0 11 = v66 := (f84 _ _ (fun q => absurd q.2 (by decide))).trans e70
  exact tr_vret hZ dX0_clear_48 rfl (by decide) (by decide) ⟨rfl, rfl, rfl, rfl, rfl, rfl, hS82, trivial⟩
def wi_X7_stepWhole : List Nat := [450, 454]
def wr_X7_stepWhole : List Nat := []
set_option maxHeartbeats 4000000 in
theorem k_X7_stepWhole {l : Launch} {T : Nat → Nat} {cn : Nat} {K N : Nat → Nat} {I0 : cz_I} {R0 : cz_R} {L0 : cz_L} {d : Int} (hW0 : Wf T cn K N I0 R0 d) {a0 : Nat} (ta0 : T a0 = 7) : ConE l mX7_stepWhole [.ref a0] cn K N I0 R0 L0 (ca_i (fun v cn' K' N' I' R' L' => cn = cn' ∧ K = K' ∧ N = N' ∧ R0 = R' ∧ L0 = L' ∧ St T cn K N d wi_X7_stepWhole wr_X7_stepWhole I0 R0 I' R0 ∧ True)) := by
  refine ConE.of (by decide +kernel) rfl (Nat.le_of_ble_eq_true rfl) rfl (fun X hX hZ hE => ?_)
  subst hX
  have hS0 : St T cn K N d wi_X7_stepWhole wr_X7_stepWhole I0 R0 I0 R0 := St.rf0 hW0
  refine tr_aload_n dX7_stepWhole_0 rfl ?_
  refine q_iconst dX7_stepWhole_1 (by decide) ?_
  intro v1 h2
  refine q_putI dX7_stepWhole_2 fl7_86 (kR7 hS0.1 ta0) (Or.inl rfl) hS0 ta0 (iokF rfl) rfl (by decide +kernel) ?_
  intro I3 hS4 e5 f6
  obtain ⟨v12, c13⟩ : ∃ v, I3 a0 2 = v := ⟨_, rfl⟩
  have b14 := iv7_2 hS4.1 ta0 c13
  have lp15 : ∀ (fu : Nat) (ls : Nat → Option Value) (I8 : cz_I) (v10 : Int32), ls 0 = some (.ref a0) → St T cn K N d wi_X7_stepWhole wr_X7_stepWhole I0 R0 I8 R0 → I8 a0 2 = v10 → (-v10.toInt + 900).toNat < fu → Tr X mX7_stepWhole 5 ls [] cn K N I8 R0 L0 0 0 := by
    intro fu
    induction fu with
    | zero => intros; rename_i hz; exact absurd hz (Nat.not_lt_zero _)
    | succ fu ih15 =>
      intro ls I8 v10 hl7 hS9 c11 hm15
      have b17 := iv7_2 hS9.1 ta0 c11
      refine tr_aload_n dX7_stepWhole_5 hl7 ?_
      refine q_getI dX7_stepWhole_6 fl7_48 (kR7 hS9.1 ta0) c11 ?_
      refine tr_aload_n dX7_stepWhole_9 hl7 ?_
      obtain ⟨v18, c19⟩ : ∃ v, I0 a0 1 = v := ⟨_, rfl⟩
      have b20 := iv7_1 hW0 ta0 c19
      refine q_getI dX7_stepWhole_10 fl7_45 (kR7 hS9.1 ta0) ((hS9.cell ta0 (by decide +kernel)).trans c19) ?_
      refine q_icmp_ge 81 dX7_stepWhole_13 (by decide) (fun h21 => ?_) (fun h21 => ?_)
      · skip
        refine tr_aload_n dX7_stepWhole_81 hl7 ?_
        refine q_getI dX7_stepWhole_82 fl7_48 (kR7 hS9.1 ta0) c11 ?_
        refine tr_aload_n dX7_stepWhole_85 hl7 ?_
        obtain ⟨v22, c23⟩ : ∃ v, I0 a0 4 = v := ⟨_, rfl⟩
        have b24 := iv7_4 hW0 ta0 c23
        refine q_getI dX7_stepWhole_86 fl7_68 (kR7 hS9.1 ta0) ((hS9.cell ta0 (by decide +kernel)).trans c23) ?_
        refine q_isubE dX7_stepWhole_89 (by intros; omega) ?_
        intro v25 h26
        exact tr_iret hZ dX7_stepWhole_90 rfl (by decide) (by decide) ⟨v25, rfl, rfl, rfl, rfl, rfl, rfl, hS9, trivial⟩
      · skip
        refine tr_aload_n dX7_stepWhole_16 hl7 ?_
        obtain ⟨a27, d28, ta27⟩ := rf7_0 hW0 ta0
        refine tr_getR dX7_stepWhole_17 fl7_18 (kR7 hS9.1 ta0) d28 ?_
        refine tr_aload_n dX7_stepWhole_20 hl7 ?_
        refine q_getI dX7_stepWhole_21 fl7_48 (kR7 hS9.1 ta0) c11 ?_
        refine q_bald dX7_stepWhole_24 (kR17 hS9.1 ta27) (ti_in (nR17 hS9.1 ta27) (by omega) (by omega)) ?_
        intro v29 c30
        have b31 := iv17 hS9.1 ta27 c30
        refine q_bipush dX7_stepWhole_25 (by decide +kernel) ?_
        intro v32 h33
        refine q_icmp_lt 81 dX7_stepWhole_27 (by decide) (fun h34 => ?_) (fun h34 => ?_)
        · skip
          refine tr_aload_n dX7_stepWhole_81 hl7 ?_
          refine q_getI dX7_stepWhole_82 fl7_48 (kR7 hS9.1 ta0) c11 ?_
          refine tr_aload_n dX7_stepWhole_85 hl7 ?_
          obtain ⟨v35, c36⟩ : ∃ v, I0 a0 4 = v := ⟨_, rfl⟩
          have b37 := iv7_4 hW0 ta0 c36
          refine q_getI dX7_stepWhole_86 fl7_68 (kR7 hS9.1 ta0) ((hS9.cell ta0 (by decide +kernel)).trans c36) ?_
          refine q_isubE dX7_stepWhole_89 (by intros; omega) ?_
          intro v38 h39
          exact tr_iret hZ dX7_stepWhole_90 rfl (by decide) (by decide) ⟨v38, rfl, rfl, rfl, rfl, rfl, rfl, hS9, trivial⟩
        · skip
          refine tr_aload_n dX7_stepWhole_30 hl7 ?_
          refine tr_getR dX7_stepWhole_31 fl7_18 (kR7 hS9.1 ta0) d28 ?_
          refine tr_aload_n dX7_stepWhole_34 hl7 ?_
          refine q_getI dX7_stepWhole_35 fl7_48 (kR7 hS9.1 ta0) c11 ?_
          refine q_bald dX7_stepWhole_38 (kR17 hS9.1 ta27) (ti_in (nR17 hS9.1 ta27) (by omega) (by omega)) ?_
          intro v40 c41
          have b42 := iv17 hS9.1 ta27 c41
          refine q_bipush dX7_stepWhole_39 (by decide +kernel) ?_
          intro v43 h44
          refine q_icmp_gt 81 dX7_stepWhole_41 (by decide) (fun h45 => ?_) (fun h45 => ?_)
          · skip
            refine tr_aload_n dX7_stepWhole_81 hl7 ?_
            refine q_getI dX7_stepWhole_82 fl7_48 (kR7 hS9.1 ta0) c11 ?_
            refine tr_aload_n dX7_stepWhole_85 hl7 ?_
            obtain ⟨v46, c47⟩ : ∃ v, I0 a0 4 = v := ⟨_, rfl⟩
            have b48 := iv7_4 hW0 ta0 c47
            refine q_getI dX7_stepWhole_86 fl7_68 (kR7 hS9.1 ta0) ((hS9.cell ta0 (by decide +kernel)).trans c47) ?_
            refine q_isubE dX7_stepWhole_89 (by intros; omega) ?_
            intro v49 h50
            exact tr_iret hZ dX7_stepWhole_90 rfl (by decide) (by decide) ⟨v49, rfl, rfl, rfl, rfl, rfl, rfl, hS9, trivial⟩
          · skip
            refine tr_aload_n dX7_stepWhole_44 hl7 ?_
            refine tr_aload_n dX7_stepWhole_45 hl7 ?_
            obtain ⟨v51, c52⟩ : ∃ v, I8 a0 6 = v := ⟨_, rfl⟩
            refine q_getI dX7_stepWhole_46 fl7_86 (kR7 hS9.1 ta0) c52 ?_
            refine q_bipush dX7_stepWhole_49 (by decide +kernel) ?_
            intro v53 h54
            refine q_imul dX7_stepWhole_51 ?_
            intro v55
            refine tr_aload_n dX7_stepWhole_52 hl7 ?_
            refine tr_getR dX7_stepWhole_53 fl7_18 (kR7 hS9.1 ta0) d28 ?_
            refine tr_aload_n dX7_stepWhole_56 hl7 ?_
            refine q_getI dX7_stepWhole_57 fl7_48 (kR7 hS9.1 ta0) c11 ?_
            refine q_bald dX7_stepWhole_60 (kR17 hS9.1 ta27) (ti_in (nR17 hS9.1 ta27) (by omega) (by omega)) ?_
            intro v56 c57
            have b58 := iv17 hS9.1 ta27 c57
            refine q_iadd dX7_stepWhole_61 ?_
            intro v59
            refine q_bipush dX7_stepWhole_62 (by decide +kernel) ?_
            intro v60 h61
            refine q_isub dX7_stepWhole_64 ?_
            intro v62
            refine q_putI dX7_stepWhole_65 fl7_86 (kR7 hS9.1 ta0) (Or.inl rfl) hS9 ta0 (iokF rfl) rfl (by decide +kernel) ?_
            intro I63 hS64 e65 f66
            have c67 : I63 a0 2 = v10 := (f66 _ _ (fun q => absurd q.2 (by decide))).trans c11
            refine tr_aload_n dX7_stepWhole_68 hl7 ?_
            refine tr_dup dX7_stepWhole_69 rfl ?_
            refine q_getI dX7_stepWhole_70 fl7_48 (kR7 hS64.1 ta0) c67 ?_
            refine q_iconst dX7_stepWhole_73 (by decide) ?_
            intro v68 h69
            refine q_iaddE dX7_stepWhole_74 (by intros; omega) ?_
            intro v70 h71
            refine q_putI dX7_stepWhole_75 fl7_48 (kR7 hS64.1 ta0) (Or.inl rfl) hS64 ta0 (by show (0 : Int) ≤ v70.toInt ∧ v70.toInt ≤ (900 : Int); omega) rfl (by decide +kernel) ?_
            intro I72 hS73 e74 f75
            have c76 : I72 a0 6 = v62 := (f75 _ _ (fun q => absurd q.2 (by decide))).trans e65
            refine tr_goto 5 dX7_stepWhole_78 (by decide) ?_
            exact ih15 _ I72 v70 hl7 hS73 e74 (by omega)
  exact lp15 _ _ I3 v12 rfl hS4 c13 (Nat.lt_succ_self _)
def wi_X7_stepWord : List Nat := [450]
def wr_X7_stepWord : List Nat := []
set_option maxHeartbeats 4000000 in
theorem k_X7_stepWord {l : Launch} {T : Nat → Nat} {cn : Nat} {K N : Nat → Nat} {I0 : cz_I} {R0 : cz_R} {L0 : cz_L} {d : Int} (hW0 : Wf T cn K N I0 R0 d) {a0 : Nat} (ta0 : T a0 = 7) : ConE l mX7_stepWord [.ref a0] cn K N I0 R0 L0 (ca_i (fun v cn' K' N' I' R' L' => cn = cn' ∧ K = K' ∧ N = N' ∧ R0 = R' ∧ St T cn K N d wi_X7_stepWord wr_X7_stepWord I0 R0 I' R0 ∧ True)) := by
  refine ConE.of (by decide +kernel) rfl (Nat.le_of_ble_eq_true rfl) rfl (fun X hX hZ hE => ?_)
  subst hX
  have hS0 : St T cn K N d wi_X7_stepWord wr_X7_stepWord I0 R0 I0 R0 := St.rf0 hW0
  refine tr_aload_n dX7_stepWord_0 rfl ?_
  refine q_lconst dX7_stepWord_1 ?_
  intro y1
  refine q_putL dX7_stepWord_2 fl7_78 (kR7 hS0.1 ta0) (Or.inl rfl) ?_
  intro L2
  obtain ⟨v9, c10⟩ : ∃ v, I0 a0 2 = v := ⟨_, rfl⟩
  have b11 := iv7_2 hS0.1 ta0 c10
  have lp12 : ∀ (fu : Nat) (ls : Nat → Option Value) (I4 : cz_I) (L5 : cz_L) (v7 : Int32), ls 0 = some (.ref a0) → St T cn K N d wi_X7_stepWord wr_X7_stepWord I0 R0 I4 R0 → I4 a0 2 = v7 → (-v7.toInt + 900).toNat < fu → Tr X mX7_stepWord 5 ls [] cn K N I4 R0 L5 0 0 := by
    intro fu
    induction fu with
    | zero => intros; rename_i hz; exact absurd hz (Nat.not_lt_zero _)
    | succ fu ih12 =>
      intro ls I4 L5 v7 hl3 hS6 c8 hm12
      have b14 := iv7_2 hS6.1 ta0 c8
      refine tr_aload_n dX7_stepWord_5 hl3 ?_
      refine q_getI dX7_stepWord_6 fl7_48 (kR7 hS6.1 ta0) c8 ?_
      refine tr_aload_n dX7_stepWord_9 hl3 ?_
      obtain ⟨v15, c16⟩ : ∃ v, I0 a0 1 = v := ⟨_, rfl⟩
      have b17 := iv7_1 hW0 ta0 c16
      refine q_getI dX7_stepWord_10 fl7_45 (kR7 hS6.1 ta0) ((hS6.cell ta0 (by decide +kernel)).trans c16) ?_
      refine q_icmp_ge 86 dX7_stepWord_13 (by decide) (fun h18 => ?_) (fun h18 => ?_)
      · skip
        refine tr_aload_n dX7_stepWord_86 hl3 ?_
        refine q_getI dX7_stepWord_87 fl7_48 (kR7 hS6.1 ta0) c8 ?_
        refine tr_aload_n dX7_stepWord_90 hl3 ?_
        obtain ⟨v19, c20⟩ : ∃ v, I0 a0 4 = v := ⟨_, rfl⟩
        have b21 := iv7_4 hW0 ta0 c20
        refine q_getI dX7_stepWord_91 fl7_68 (kR7 hS6.1 ta0) ((hS6.cell ta0 (by decide +kernel)).trans c20) ?_
        refine q_isubE dX7_stepWord_94 (by intros; omega) ?_
        intro v22 h23
        exact tr_iret hZ dX7_stepWord_95 rfl (by decide) (by decide) ⟨v22, rfl, rfl, rfl, rfl, rfl, hS6, trivial⟩
      · skip
        refine tr_aload_n dX7_stepWord_16 hl3 ?_
        obtain ⟨a24, d25, ta24⟩ := rf7_0 hW0 ta0
        refine tr_getR dX7_stepWord_17 fl7_18 (kR7 hS6.1 ta0) d25 ?_
        refine tr_aload_n dX7_stepWord_20 hl3 ?_
        refine q_getI dX7_stepWord_21 fl7_48 (kR7 hS6.1 ta0) c8 ?_
        refine q_bald dX7_stepWord_24 (kR17 hS6.1 ta24) (ti_in (nR17 hS6.1 ta24) (by omega) (by omega)) ?_
        intro v26 c27
        have b28 := iv17 hS6.1 ta24 c27
        refine q_bipush dX7_stepWord_25 (by decide +kernel) ?_
        intro v29 h30
        refine q_icmp_lt 86 dX7_stepWord_27 (by decide) (fun h31 => ?_) (fun h31 => ?_)
        · skip
          refine tr_aload_n dX7_stepWord_86 hl3 ?_
          refine q_getI dX7_stepWord_87 fl7_48 (kR7 hS6.1 ta0) c8 ?_
          refine tr_aload_n dX7_stepWord_90 hl3 ?_
          obtain ⟨v32, c33⟩ : ∃ v, I0 a0 4 = v := ⟨_, rfl⟩
          have b34 := iv7_4 hW0 ta0 c33
          refine q_getI dX7_stepWord_91 fl7_68 (kR7 hS6.1 ta0) ((hS6.cell ta0 (by decide +kernel)).trans c33) ?_
          refine q_isubE dX7_stepWord_94 (by intros; omega) ?_
          intro v35 h36
          exact tr_iret hZ dX7_stepWord_95 rfl (by decide) (by decide) ⟨v35, rfl, rfl, rfl, rfl, rfl, hS6, trivial⟩
        · skip
          refine tr_aload_n dX7_stepWord_30 hl3 ?_
          refine tr_getR dX7_stepWord_31 fl7_18 (kR7 hS6.1 ta0) d25 ?_
          refine tr_aload_n dX7_stepWord_34 hl3 ?_
          refine q_getI dX7_stepWord_35 fl7_48 (kR7 hS6.1 ta0) c8 ?_
          refine q_bald dX7_stepWord_38 (kR17 hS6.1 ta24) (ti_in (nR17 hS6.1 ta24) (by omega) (by omega)) ?_
          intro v37 c38
          have b39 := iv17 hS6.1 ta24 c38
          refine q_bipush dX7_stepWord_39 (by decide +kernel) ?_
          intro v40 h41
          refine q_icmp_gt 86 dX7_stepWord_41 (by decide) (fun h42 => ?_) (fun h42 => ?_)
          · skip
            refine tr_aload_n dX7_stepWord_86 hl3 ?_
            refine q_getI dX7_stepWord_87 fl7_48 (kR7 hS6.1 ta0) c8 ?_
            refine tr_aload_n dX7_stepWord_90 hl3 ?_
            obtain ⟨v43, c44⟩ : ∃ v, I0 a0 4 = v := ⟨_, rfl⟩
            have b45 := iv7_4 hW0 ta0 c44
            refine q_getI dX7_stepWord_91 fl7_68 (kR7 hS6.1 ta0) ((hS6.cell ta0 (by decide +kernel)).trans c44) ?_
            refine q_isubE dX7_stepWord_94 (by intros; omega) ?_
            intro v46 h47
            exact tr_iret hZ dX7_stepWord_95 rfl (by decide) (by decide) ⟨v46, rfl, rfl, rfl, rfl, rfl, hS6, trivial⟩
          · skip
            refine tr_aload_n dX7_stepWord_44 hl3 ?_
            refine tr_aload_n dX7_stepWord_45 hl3 ?_
            refine q_getL dX7_stepWord_46 fl7_78 (kR7 hS6.1 ta0) ?_
            intro y48
            refine q_ldc2 dX7_stepWord_49 ld7_82 ?_
            intro y49
            refine q_lmul dX7_stepWord_52 ?_
            intro y50
            refine tr_aload_n dX7_stepWord_53 hl3 ?_
            refine tr_getR dX7_stepWord_54 fl7_18 (kR7 hS6.1 ta0) d25 ?_
            refine tr_aload_n dX7_stepWord_57 hl3 ?_
            refine q_getI dX7_stepWord_58 fl7_48 (kR7 hS6.1 ta0) c8 ?_
            refine q_bald dX7_stepWord_61 (kR17 hS6.1 ta24) (ti_in (nR17 hS6.1 ta24) (by omega) (by omega)) ?_
            intro v51 c52
            have b53 := iv17 hS6.1 ta24 c52
            refine q_i2l dX7_stepWord_62 ?_
            intro y54
            refine q_ladd dX7_stepWord_63 ?_
            intro y55
            refine q_ldc2 dX7_stepWord_64 ld7_84 ?_
            intro y56
            refine q_lsub dX7_stepWord_67 ?_
            intro y57
            refine q_lconst dX7_stepWord_68 ?_
            intro y58
            refine q_ladd dX7_stepWord_69 ?_
            intro y59
            refine q_putL dX7_stepWord_70 fl7_78 (kR7 hS6.1 ta0) (Or.inl rfl) ?_
            intro L60
            refine tr_aload_n dX7_stepWord_73 hl3 ?_
            refine tr_dup dX7_stepWord_74 rfl ?_
            refine q_getI dX7_stepWord_75 fl7_48 (kR7 hS6.1 ta0) c8 ?_
            refine q_iconst dX7_stepWord_78 (by decide) ?_
            intro v61 h62
            refine q_iaddE dX7_stepWord_79 (by intros; omega) ?_
            intro v63 h64
            refine q_putI dX7_stepWord_80 fl7_48 (kR7 hS6.1 ta0) (Or.inl rfl) hS6 ta0 (by show (0 : Int) ≤ v63.toInt ∧ v63.toInt ≤ (900 : Int); omega) rfl (by decide +kernel) ?_
            intro I65 hS66 e67 f68
            refine tr_goto 5 dX7_stepWord_83 (by decide) ?_
            exact ih12 _ I65 L60 v63 hl3 hS66 e67 (by omega)
  exact lp12 _ _ I0 L2 v9 rfl hS0 c10 (Nat.lt_succ_self _)
def wi_X7_step : List Nat := [450, 451, 452, 454]
def wr_X7_step : List Nat := []
set_option maxHeartbeats 4000000 in
theorem k_X7_step {l : Launch} {T : Nat → Nat} {cn : Nat} {K N : Nat → Nat} {I0 : cz_I} {R0 : cz_R} {L0 : cz_L} {d : Int} (hW0 : Wf T cn K N I0 R0 d) {a0 : Nat} (ta0 : T a0 = 7) : ConE l mX7_step [.ref a0] cn K N I0 R0 L0 (ca_v (fun cn' K' N' I' R' L' => cn = cn' ∧ K = K' ∧ N = N' ∧ R0 = R' ∧ St T cn K N d wi_X7_step wr_X7_step I0 R0 I' R0 ∧ True)) := by
  refine ConE.of (by decide +kernel) rfl (Nat.le_of_ble_eq_true rfl) rfl (fun X hX hZ hE => ?_)
  subst hX
  have hS0 : St T cn K N d wi_X7_step wr_X7_step I0 R0 I0 R0 := St.rf0 hW0
  obtain ⟨v7, c8⟩ : ∃ v, I0 a0 2 = v := ⟨_, rfl⟩
  have b9 := iv7_2 hS0.1 ta0 c8
  have lp10 : ∀ (fu : Nat) (ls : Nat → Option Value) (I2 : cz_I) (L3 : cz_L) (v5 : Int32), ls 0 = some (.ref a0) → St T cn K N d wi_X7_step wr_X7_step I0 R0 I2 R0 → I2 a0 2 = v5 → (-v5.toInt + 900).toNat < fu → Tr X mX7_step 0 ls [] cn K N I2 R0 L3 0 0 := by
    intro fu
    induction fu with
    | zero => intros; rename_i hz; exact absurd hz (Nat.not_lt_zero _)
    | succ fu ih10 =>
      intro ls I2 L3 v5 hl1 hS4 c6 hm10
      have b12 := iv7_2 hS4.1 ta0 c6
      refine tr_aload_n dX7_step_0 hl1 ?_
      refine q_getI dX7_step_1 fl7_48 (kR7 hS4.1 ta0) c6 ?_
      refine tr_aload_n dX7_step_4 hl1 ?_
      obtain ⟨v13, c14⟩ : ∃ v, I0 a0 1 = v := ⟨_, rfl⟩
      have b15 := iv7_1 hW0 ta0 c14
      refine q_getI dX7_step_5 fl7_45 (kR7 hS4.1 ta0) ((hS4.cell ta0 (by decide +kernel)).trans c14) ?_
      refine q_icmp_ge 38 dX7_step_8 (by decide) (fun h16 => ?_) (fun h16 => ?_)
      · skip
        refine tr_aload_n dX7_step_38 hl1 ?_
        refine tr_aload_n dX7_step_39 hl1 ?_
        refine q_getI dX7_step_40 fl7_48 (kR7 hS4.1 ta0) c6 ?_
        refine q_putI dX7_step_43 fl7_68 (kR7 hS4.1 ta0) (Or.inl rfl) hS4 ta0 (by show (0 : Int) ≤ v5.toInt ∧ v5.toInt ≤ (900 : Int); omega) rfl (by decide +kernel) ?_
        intro I17 hS18 e19 f20
        have c21 : I17 a0 2 = v5 := (f20 _ _ (fun q => absurd q.2 (by decide))).trans c6
        refine tr_aload_n dX7_step_46 hl1 ?_
        refine q_getI dX7_step_47 fl7_48 (kR7 hS18.1 ta0) c21 ?_
        refine tr_aload_n dX7_step_50 hl1 ?_
        refine q_getI dX7_step_51 fl7_45 (kR7 hS18.1 ta0) ((hS18.cell ta0 (by decide +kernel)).trans c14) ?_
        refine q_icmp_lt 63 dX7_step_54 (by decide) (fun h22 => ?_) (fun h22 => ?_)
        · skip
          refine tr_aload_n dX7_step_63 hl1 ?_
          obtain ⟨a23, d24, ta23⟩ := rf7_0 hW0 ta0
          refine tr_getR dX7_step_64 fl7_18 (kR7 hS18.1 ta0) d24 ?_
          refine tr_aload_n dX7_step_67 hl1 ?_
          refine q_getI dX7_step_68 fl7_48 (kR7 hS18.1 ta0) c21 ?_
          refine q_bald dX7_step_71 (kR17 hS18.1 ta23) (ti_in (nR17 hS18.1 ta23) (by omega) (by omega)) ?_
          intro v25 c26
          have b27 := iv17 hS18.1 ta23 c26
          refine tr_istore_n dX7_step_72 (by decide) (by decide) ?_
          refine tr_iload_n dX7_step_73 rfl ?_
          refine q_bipush dX7_step_74 (by decide +kernel) ?_
          intro v28 h29
          refine q_icmp_lt 106 dX7_step_76 (by decide) (fun h30 => ?_) (fun h30 => ?_)
          · skip
            refine tr_iload_n dX7_step_106 rfl ?_
            refine q_bipush dX7_step_107 (by decide +kernel) ?_
            intro v31 h32
            refine q_icmp_lt 138 dX7_step_109 (by decide) (fun h33 => ?_) (fun h33 => ?_)
            · skip
              refine tr_aload_n dX7_step_138 hl1 ?_
              refine tr_iload_n dX7_step_139 rfl ?_
              refine q_bipush dX7_step_140 (by decide +kernel) ?_
              intro v34 h35
              refine q_icmp_ne 149 dX7_step_142 (by decide) (fun h36 => ?_) (fun h36 => ?_)
              · skip
                refine tr_iload_n dX7_step_149 rfl ?_
                refine q_bipush dX7_step_150 (by decide +kernel) ?_
                intro v37 h38
                refine q_icmp_ne 159 dX7_step_152 (by decide) (fun h39 => ?_) (fun h39 => ?_)
                · skip
                  refine q_iconst dX7_step_159 (by decide) ?_
                  intro v40 h41
                  refine q_putI dX7_step_160 fl7_58 (kR7 hS18.1 ta0) (Or.inl rfl) hS18 ta0 (by show (0 : Int) ≤ v40.toInt ∧ v40.toInt ≤ (5 : Int); omega) rfl (by decide +kernel) ?_
                  intro I42 hS43 e44 f45
                  have c46 : I42 a0 2 = v5 := (f45 _ _ (fun q => absurd q.2 (by decide))).trans c21
                  have c47 : I42 a0 4 = v5 := (f45 _ _ (fun q => absurd q.2 (by decide))).trans e19
                  refine tr_aload_n dX7_step_163 hl1 ?_
                  refine tr_dup dX7_step_164 rfl ?_
                  refine q_getI dX7_step_165 fl7_48 (kR7 hS43.1 ta0) c46 ?_
                  refine q_iconst dX7_step_168 (by decide) ?_
                  intro v48 h49
                  refine q_iaddE dX7_step_169 (by intros; omega) ?_
                  intro v50 h51
                  refine q_putI dX7_step_170 fl7_48 (kR7 hS43.1 ta0) (Or.inl rfl) hS43 ta0 (by show (0 : Int) ≤ v50.toInt ∧ v50.toInt ≤ (900 : Int); omega) rfl (by decide +kernel) ?_
                  intro I52 hS53 e54 f55
                  have c56 : I52 a0 4 = v5 := (f55 _ _ (fun q => absurd q.2 (by decide))).trans c47
                  have c57 : I52 a0 3 = v40 := (f55 _ _ (fun q => absurd q.2 (by decide))).trans e44
                  exact tr_vret hZ dX7_step_173 rfl (by decide) (by decide) ⟨rfl, rfl, rfl, rfl, rfl, hS53, trivial⟩
                · skip
                  refine q_iconst dX7_step_155 (by decide) ?_
                  intro v58 h59
                  refine tr_goto 160 dX7_step_156 (by decide) ?_
                  refine q_putI dX7_step_160 fl7_58 (kR7 hS18.1 ta0) (Or.inl rfl) hS18 ta0 (by show (0 : Int) ≤ v58.toInt ∧ v58.toInt ≤ (5 : Int); omega) rfl (by decide +kernel) ?_
                  intro I60 hS61 e62 f63
                  have c64 : I60 a0 2 = v5 := (f63 _ _ (fun q => absurd q.2 (by decide))).trans c21
                  have c65 : I60 a0 4 = v5 := (f63 _ _ (fun q => absurd q.2 (by decide))).trans e19
                  refine tr_aload_n dX7_step_163 hl1 ?_
                  refine tr_dup dX7_step_164 rfl ?_
                  refine q_getI dX7_step_165 fl7_48 (kR7 hS61.1 ta0) c64 ?_
                  refine q_iconst dX7_step_168 (by decide) ?_
                  intro v66 h67
                  refine q_iaddE dX7_step_169 (by intros; omega) ?_
                  intro v68 h69
                  refine q_putI dX7_step_170 fl7_48 (kR7 hS61.1 ta0) (Or.inl rfl) hS61 ta0 (by show (0 : Int) ≤ v68.toInt ∧ v68.toInt ≤ (900 : Int); omega) rfl (by decide +kernel) ?_
                  intro I70 hS71 e72 f73
                  have c74 : I70 a0 4 = v5 := (f73 _ _ (fun q => absurd q.2 (by decide))).trans c65
                  have c75 : I70 a0 3 = v58 := (f73 _ _ (fun q => absurd q.2 (by decide))).trans e62
                  exact tr_vret hZ dX7_step_173 rfl (by decide) (by decide) ⟨rfl, rfl, rfl, rfl, rfl, hS71, trivial⟩
              · skip
                exfalso; omega
            · skip
              refine tr_iload_n dX7_step_112 rfl ?_
              refine q_bipush dX7_step_113 (by decide +kernel) ?_
              intro v76 h77
              refine q_icmp_gt 138 dX7_step_115 (by decide) (fun h78 => ?_) (fun h78 => ?_)
              · skip
                refine tr_aload_n dX7_step_138 hl1 ?_
                refine tr_iload_n dX7_step_139 rfl ?_
                refine q_bipush dX7_step_140 (by decide +kernel) ?_
                intro v79 h80
                refine q_icmp_ne 149 dX7_step_142 (by decide) (fun h81 => ?_) (fun h81 => ?_)
                · skip
                  refine tr_iload_n dX7_step_149 rfl ?_
                  refine q_bipush dX7_step_150 (by decide +kernel) ?_
                  intro v82 h83
                  refine q_icmp_ne 159 dX7_step_152 (by decide) (fun h84 => ?_) (fun h84 => ?_)
                  · skip
                    refine q_iconst dX7_step_159 (by decide) ?_
                    intro v85 h86
                    refine q_putI dX7_step_160 fl7_58 (kR7 hS18.1 ta0) (Or.inl rfl) hS18 ta0 (by show (0 : Int) ≤ v85.toInt ∧ v85.toInt ≤ (5 : Int); omega) rfl (by decide +kernel) ?_
                    intro I87 hS88 e89 f90
                    have c91 : I87 a0 2 = v5 := (f90 _ _ (fun q => absurd q.2 (by decide))).trans c21
                    have c92 : I87 a0 4 = v5 := (f90 _ _ (fun q => absurd q.2 (by decide))).trans e19
                    refine tr_aload_n dX7_step_163 hl1 ?_
                    refine tr_dup dX7_step_164 rfl ?_
                    refine q_getI dX7_step_165 fl7_48 (kR7 hS88.1 ta0) c91 ?_
                    refine q_iconst dX7_step_168 (by decide) ?_
                    intro v93 h94
                    refine q_iaddE dX7_step_169 (by intros; omega) ?_
                    intro v95 h96
                    refine q_putI dX7_step_170 fl7_48 (kR7 hS88.1 ta0) (Or.inl rfl) hS88 ta0 (by show (0 : Int) ≤ v95.toInt ∧ v95.toInt ≤ (900 : Int); omega) rfl (by decide +kernel) ?_
                    intro I97 hS98 e99 f100
                    have c101 : I97 a0 4 = v5 := (f100 _ _ (fun q => absurd q.2 (by decide))).trans c92
                    have c102 : I97 a0 3 = v85 := (f100 _ _ (fun q => absurd q.2 (by decide))).trans e89
                    exact tr_vret hZ dX7_step_173 rfl (by decide) (by decide) ⟨rfl, rfl, rfl, rfl, rfl, hS98, trivial⟩
                  · skip
                    exfalso; omega
                · skip
                  refine q_iconst dX7_step_145 (by decide) ?_
                  intro v103 h104
                  refine tr_goto 160 dX7_step_146 (by decide) ?_
                  refine q_putI dX7_step_160 fl7_58 (kR7 hS18.1 ta0) (Or.inl rfl) hS18 ta0 (by show (0 : Int) ≤ v103.toInt ∧ v103.toInt ≤ (5 : Int); omega) rfl (by decide +kernel) ?_
                  intro I105 hS106 e107 f108
                  have c109 : I105 a0 2 = v5 := (f108 _ _ (fun q => absurd q.2 (by decide))).trans c21
                  have c110 : I105 a0 4 = v5 := (f108 _ _ (fun q => absurd q.2 (by decide))).trans e19
                  refine tr_aload_n dX7_step_163 hl1 ?_
                  refine tr_dup dX7_step_164 rfl ?_
                  refine q_getI dX7_step_165 fl7_48 (kR7 hS106.1 ta0) c109 ?_
                  refine q_iconst dX7_step_168 (by decide) ?_
                  intro v111 h112
                  refine q_iaddE dX7_step_169 (by intros; omega) ?_
                  intro v113 h114
                  refine q_putI dX7_step_170 fl7_48 (kR7 hS106.1 ta0) (Or.inl rfl) hS106 ta0 (by show (0 : Int) ≤ v113.toInt ∧ v113.toInt ≤ (900 : Int); omega) rfl (by decide +kernel) ?_
                  intro I115 hS116 e117 f118
                  have c119 : I115 a0 4 = v5 := (f118 _ _ (fun q => absurd q.2 (by decide))).trans c110
                  have c120 : I115 a0 3 = v103 := (f118 _ _ (fun q => absurd q.2 (by decide))).trans e107
                  exact tr_vret hZ dX7_step_173 rfl (by decide) (by decide) ⟨rfl, rfl, rfl, rfl, rfl, hS116, trivial⟩
              · skip
                refine tr_aload_n dX7_step_118 hl1 ?_
                refine tr_aload_n dX7_step_119 hl1 ?_
                refine q_callVi hE (M' := mX7_stepWhole) (as := []) dX7_step_120 lk7_75 inX7_stepWhole seX7_stepWhole myX7_stepWhole (by decide) ⟨by decide, by decide⟩ rfl (kR7 hS18.1 ta0) (Nat.le_of_ble_eq_true rfl) rfl rfl (by decide) (by decide) (k_X7_stepWhole hS18.1 ta0) ?_
                rintro v125 cn' K' N' I121 R122 L123 ⟨rfl, rfl, rfl, rfl, rfl, g124, -⟩
                have hS126 := hS18.tr g124 (by decide +kernel) (by decide +kernel)
                have c127 : I121 a0 4 = v5 := (g124.cell ta0 (by decide +kernel)).trans e19
                refine q_iconst dX7_step_123 (by decide) ?_
                intro v128 h129
                refine q_icmp_gt 131 dX7_step_124 (by decide) (fun h130 => ?_) (fun h130 => ?_)
                · skip
                  refine q_iconst dX7_step_131 (by decide) ?_
                  intro v131 h132
                  refine q_putI dX7_step_132 fl7_58 (kR7 hS126.1 ta0) (Or.inl rfl) hS126 ta0 (by show (0 : Int) ≤ v131.toInt ∧ v131.toInt ≤ (5 : Int); omega) rfl (by decide +kernel) ?_
                  intro I133 hS134 e135 f136
                  have c137 : I133 a0 4 = v5 := (f136 _ _ (fun q => absurd q.2 (by decide))).trans c127
                  refine tr_goto 173 dX7_step_135 (by decide) ?_
                  exact tr_vret hZ dX7_step_173 rfl (by decide) (by decide) ⟨rfl, rfl, rfl, rfl, rfl, hS134, trivial⟩
                · skip
                  refine q_iconst dX7_step_127 (by decide) ?_
                  intro v138 h139
                  refine tr_goto 132 dX7_step_128 (by decide) ?_
                  refine q_putI dX7_step_132 fl7_58 (kR7 hS126.1 ta0) (Or.inl rfl) hS126 ta0 (by show (0 : Int) ≤ v138.toInt ∧ v138.toInt ≤ (5 : Int); omega) rfl (by decide +kernel) ?_
                  intro I140 hS141 e142 f143
                  have c144 : I140 a0 4 = v5 := (f143 _ _ (fun q => absurd q.2 (by decide))).trans c127
                  refine tr_goto 173 dX7_step_135 (by decide) ?_
                  exact tr_vret hZ dX7_step_173 rfl (by decide) (by decide) ⟨rfl, rfl, rfl, rfl, rfl, hS141, trivial⟩
          · skip
            refine tr_iload_n dX7_step_79 rfl ?_
            refine q_bipush dX7_step_80 (by decide +kernel) ?_
            intro v145 h146
            refine q_icmp_gt 106 dX7_step_82 (by decide) (fun h147 => ?_) (fun h147 => ?_)
            · skip
              refine tr_iload_n dX7_step_106 rfl ?_
              refine q_bipush dX7_step_107 (by decide +kernel) ?_
              intro v148 h149
              refine q_icmp_lt 138 dX7_step_109 (by decide) (fun h150 => ?_) (fun h150 => ?_)
              · skip
                exfalso; omega
              · skip
                refine tr_iload_n dX7_step_112 rfl ?_
                refine q_bipush dX7_step_113 (by decide +kernel) ?_
                intro v151 h152
                refine q_icmp_gt 138 dX7_step_115 (by decide) (fun h153 => ?_) (fun h153 => ?_)
                · skip
                  refine tr_aload_n dX7_step_138 hl1 ?_
                  refine tr_iload_n dX7_step_139 rfl ?_
                  refine q_bipush dX7_step_140 (by decide +kernel) ?_
                  intro v154 h155
                  refine q_icmp_ne 149 dX7_step_142 (by decide) (fun h156 => ?_) (fun h156 => ?_)
                  · skip
                    refine tr_iload_n dX7_step_149 rfl ?_
                    refine q_bipush dX7_step_150 (by decide +kernel) ?_
                    intro v157 h158
                    refine q_icmp_ne 159 dX7_step_152 (by decide) (fun h159 => ?_) (fun h159 => ?_)
                    · skip
                      refine q_iconst dX7_step_159 (by decide) ?_
                      intro v160 h161
                      refine q_putI dX7_step_160 fl7_58 (kR7 hS18.1 ta0) (Or.inl rfl) hS18 ta0 (by show (0 : Int) ≤ v160.toInt ∧ v160.toInt ≤ (5 : Int); omega) rfl (by decide +kernel) ?_
                      intro I162 hS163 e164 f165
                      have c166 : I162 a0 2 = v5 := (f165 _ _ (fun q => absurd q.2 (by decide))).trans c21
                      have c167 : I162 a0 4 = v5 := (f165 _ _ (fun q => absurd q.2 (by decide))).trans e19
                      refine tr_aload_n dX7_step_163 hl1 ?_
                      refine tr_dup dX7_step_164 rfl ?_
                      refine q_getI dX7_step_165 fl7_48 (kR7 hS163.1 ta0) c166 ?_
                      refine q_iconst dX7_step_168 (by decide) ?_
                      intro v168 h169
                      refine q_iaddE dX7_step_169 (by intros; omega) ?_
                      intro v170 h171
                      refine q_putI dX7_step_170 fl7_48 (kR7 hS163.1 ta0) (Or.inl rfl) hS163 ta0 (by show (0 : Int) ≤ v170.toInt ∧ v170.toInt ≤ (900 : Int); omega) rfl (by decide +kernel) ?_
                      intro I172 hS173 e174 f175
                      have c176 : I172 a0 4 = v5 := (f175 _ _ (fun q => absurd q.2 (by decide))).trans c167
                      have c177 : I172 a0 3 = v160 := (f175 _ _ (fun q => absurd q.2 (by decide))).trans e164
                      exact tr_vret hZ dX7_step_173 rfl (by decide) (by decide) ⟨rfl, rfl, rfl, rfl, rfl, hS173, trivial⟩
                    · skip
                      exfalso; omega
                  · skip
                    exfalso; omega
                · skip
                  exfalso; omega
            · skip
              refine tr_aload_n dX7_step_85 hl1 ?_
              refine tr_aload_n dX7_step_86 hl1 ?_
              refine q_callVi hE (M' := mX7_stepWord) (as := []) dX7_step_87 lk7_71 inX7_stepWord seX7_stepWord myX7_stepWord (by decide) ⟨by decide, by decide⟩ rfl (kR7 hS18.1 ta0) (Nat.le_of_ble_eq_true rfl) rfl rfl (by decide) (by decide) (k_X7_stepWord hS18.1 ta0) ?_
              rintro v182 cn' K' N' I178 R179 L180 ⟨rfl, rfl, rfl, rfl, g181, -⟩
              have hS183 := hS18.tr g181 (by decide +kernel) (by decide +kernel)
              have c184 : I178 a0 4 = v5 := (g181.cell ta0 (by decide +kernel)).trans e19
              refine q_bipush dX7_step_90 (by decide +kernel) ?_
              intro v185 h186
              refine q_icmp_gt 99 dX7_step_92 (by decide) (fun h187 => ?_) (fun h187 => ?_)
              · skip
                refine q_iconst dX7_step_99 (by decide) ?_
                intro v188 h189
                refine q_putI dX7_step_100 fl7_58 (kR7 hS183.1 ta0) (Or.inl rfl) hS183 ta0 (by show (0 : Int) ≤ v188.toInt ∧ v188.toInt ≤ (5 : Int); omega) rfl (by decide +kernel) ?_
                intro I190 hS191 e192 f193
                have c194 : I190 a0 4 = v5 := (f193 _ _ (fun q => absurd q.2 (by decide))).trans c184
                refine tr_goto 173 dX7_step_103 (by decide) ?_
                exact tr_vret hZ dX7_step_173 rfl (by decide) (by decide) ⟨rfl, rfl, rfl, rfl, rfl, hS191, trivial⟩
              · skip
                refine q_iconst dX7_step_95 (by decide) ?_
                intro v195 h196
                refine tr_goto 100 dX7_step_96 (by decide) ?_
                refine q_putI dX7_step_100 fl7_58 (kR7 hS183.1 ta0) (Or.inl rfl) hS183 ta0 (by show (0 : Int) ≤ v195.toInt ∧ v195.toInt ≤ (5 : Int); omega) rfl (by decide +kernel) ?_
                intro I197 hS198 e199 f200
                have c201 : I197 a0 4 = v5 := (f200 _ _ (fun q => absurd q.2 (by decide))).trans c184
                refine tr_goto 173 dX7_step_103 (by decide) ?_
                exact tr_vret hZ dX7_step_173 rfl (by decide) (by decide) ⟨rfl, rfl, rfl, rfl, rfl, hS198, trivial⟩
        · skip
          refine tr_aload_n dX7_step_57 hl1 ?_
          refine q_iconst dX7_step_58 (by decide) ?_
          intro v202 h203
          refine q_putI dX7_step_59 fl7_58 (kR7 hS18.1 ta0) (Or.inl rfl) hS18 ta0 (by show (0 : Int) ≤ v202.toInt ∧ v202.toInt ≤ (5 : Int); omega) rfl (by decide +kernel) ?_
          intro I204 hS205 e206 f207
          have c208 : I204 a0 2 = v5 := (f207 _ _ (fun q => absurd q.2 (by decide))).trans c21
          have c209 : I204 a0 4 = v5 := (f207 _ _ (fun q => absurd q.2 (by decide))).trans e19
          exact tr_vret hZ dX7_step_62 rfl (by decide) (by decide) ⟨rfl, rfl, rfl, rfl, rfl, hS205, trivial⟩
      · skip
        refine tr_aload_n dX7_step_11 hl1 ?_
        obtain ⟨a210, d211, ta210⟩ := rf7_0 hW0 ta0
        refine tr_getR dX7_step_12 fl7_18 (kR7 hS4.1 ta0) d211 ?_
        refine tr_aload_n dX7_step_15 hl1 ?_
        refine q_getI dX7_step_16 fl7_48 (kR7 hS4.1 ta0) c6 ?_
        refine q_bald dX7_step_19 (kR17 hS4.1 ta210) (ti_in (nR17 hS4.1 ta210) (by omega) (by omega)) ?_
        intro v212 c213
        have b214 := iv17 hS4.1 ta210 c213
        refine q_bipush dX7_step_20 (by decide +kernel) ?_
        intro v215 h216
        refine q_icmp_ne 38 dX7_step_22 (by decide) (fun h217 => ?_) (fun h217 => ?_)
        · skip
          refine tr_aload_n dX7_step_38 hl1 ?_
          refine tr_aload_n dX7_step_39 hl1 ?_
          refine q_getI dX7_step_40 fl7_48 (kR7 hS4.1 ta0) c6 ?_
          refine q_putI dX7_step_43 fl7_68 (kR7 hS4.1 ta0) (Or.inl rfl) hS4 ta0 (by show (0 : Int) ≤ v5.toInt ∧ v5.toInt ≤ (900 : Int); omega) rfl (by decide +kernel) ?_
          intro I218 hS219 e220 f221
          have c222 : I218 a0 2 = v5 := (f221 _ _ (fun q => absurd q.2 (by decide))).trans c6
          refine tr_aload_n dX7_step_46 hl1 ?_
          refine q_getI dX7_step_47 fl7_48 (kR7 hS219.1 ta0) c222 ?_
          refine tr_aload_n dX7_step_50 hl1 ?_
          refine q_getI dX7_step_51 fl7_45 (kR7 hS219.1 ta0) ((hS219.cell ta0 (by decide +kernel)).trans c14) ?_
          refine q_icmp_lt 63 dX7_step_54 (by decide) (fun h223 => ?_) (fun h223 => ?_)
          · skip
            refine tr_aload_n dX7_step_63 hl1 ?_
            refine tr_getR dX7_step_64 fl7_18 (kR7 hS219.1 ta0) d211 ?_
            refine tr_aload_n dX7_step_67 hl1 ?_
            refine q_getI dX7_step_68 fl7_48 (kR7 hS219.1 ta0) c222 ?_
            refine q_bald dX7_step_71 (kR17 hS219.1 ta210) (ti_in (nR17 hS219.1 ta210) (by omega) (by omega)) ?_
            intro v224 c225
            have b226 := iv17 hS219.1 ta210 c225
            refine tr_istore_n dX7_step_72 (by decide) (by decide) ?_
            refine tr_iload_n dX7_step_73 rfl ?_
            refine q_bipush dX7_step_74 (by decide +kernel) ?_
            intro v227 h228
            refine q_icmp_lt 106 dX7_step_76 (by decide) (fun h229 => ?_) (fun h229 => ?_)
            · skip
              refine tr_iload_n dX7_step_106 rfl ?_
              refine q_bipush dX7_step_107 (by decide +kernel) ?_
              intro v230 h231
              refine q_icmp_lt 138 dX7_step_109 (by decide) (fun h232 => ?_) (fun h232 => ?_)
              · skip
                refine tr_aload_n dX7_step_138 hl1 ?_
                refine tr_iload_n dX7_step_139 rfl ?_
                refine q_bipush dX7_step_140 (by decide +kernel) ?_
                intro v233 h234
                refine q_icmp_ne 149 dX7_step_142 (by decide) (fun h235 => ?_) (fun h235 => ?_)
                · skip
                  refine tr_iload_n dX7_step_149 rfl ?_
                  refine q_bipush dX7_step_150 (by decide +kernel) ?_
                  intro v236 h237
                  refine q_icmp_ne 159 dX7_step_152 (by decide) (fun h238 => ?_) (fun h238 => ?_)
                  · skip
                    refine q_iconst dX7_step_159 (by decide) ?_
                    intro v239 h240
                    refine q_putI dX7_step_160 fl7_58 (kR7 hS219.1 ta0) (Or.inl rfl) hS219 ta0 (by show (0 : Int) ≤ v239.toInt ∧ v239.toInt ≤ (5 : Int); omega) rfl (by decide +kernel) ?_
                    intro I241 hS242 e243 f244
                    have c245 : I241 a0 2 = v5 := (f244 _ _ (fun q => absurd q.2 (by decide))).trans c222
                    have c246 : I241 a0 4 = v5 := (f244 _ _ (fun q => absurd q.2 (by decide))).trans e220
                    refine tr_aload_n dX7_step_163 hl1 ?_
                    refine tr_dup dX7_step_164 rfl ?_
                    refine q_getI dX7_step_165 fl7_48 (kR7 hS242.1 ta0) c245 ?_
                    refine q_iconst dX7_step_168 (by decide) ?_
                    intro v247 h248
                    refine q_iaddE dX7_step_169 (by intros; omega) ?_
                    intro v249 h250
                    refine q_putI dX7_step_170 fl7_48 (kR7 hS242.1 ta0) (Or.inl rfl) hS242 ta0 (by show (0 : Int) ≤ v249.toInt ∧ v249.toInt ≤ (900 : Int); omega) rfl (by decide +kernel) ?_
                    intro I251 hS252 e253 f254
                    have c255 : I251 a0 4 = v5 := (f254 _ _ (fun q => absurd q.2 (by decide))).trans c246
                    have c256 : I251 a0 3 = v239 := (f254 _ _ (fun q => absurd q.2 (by decide))).trans e243
                    exact tr_vret hZ dX7_step_173 rfl (by decide) (by decide) ⟨rfl, rfl, rfl, rfl, rfl, hS252, trivial⟩
                  · skip
                    refine q_iconst dX7_step_155 (by decide) ?_
                    intro v257 h258
                    refine tr_goto 160 dX7_step_156 (by decide) ?_
                    refine q_putI dX7_step_160 fl7_58 (kR7 hS219.1 ta0) (Or.inl rfl) hS219 ta0 (by show (0 : Int) ≤ v257.toInt ∧ v257.toInt ≤ (5 : Int); omega) rfl (by decide +kernel) ?_
                    intro I259 hS260 e261 f262
                    have c263 : I259 a0 2 = v5 := (f262 _ _ (fun q => absurd q.2 (by decide))).trans c222
                    have c264 : I259 a0 4 = v5 := (f262 _ _ (fun q => absurd q.2 (by decide))).trans e220
                    refine tr_aload_n dX7_step_163 hl1 ?_
                    refine tr_dup dX7_step_164 rfl ?_
                    refine q_getI dX7_step_165 fl7_48 (kR7 hS260.1 ta0) c263 ?_
                    refine q_iconst dX7_step_168 (by decide) ?_
                    intro v265 h266
                    refine q_iaddE dX7_step_169 (by intros; omega) ?_
                    intro v267 h268
                    refine q_putI dX7_step_170 fl7_48 (kR7 hS260.1 ta0) (Or.inl rfl) hS260 ta0 (by show (0 : Int) ≤ v267.toInt ∧ v267.toInt ≤ (900 : Int); omega) rfl (by decide +kernel) ?_
                    intro I269 hS270 e271 f272
                    have c273 : I269 a0 4 = v5 := (f272 _ _ (fun q => absurd q.2 (by decide))).trans c264
                    have c274 : I269 a0 3 = v257 := (f272 _ _ (fun q => absurd q.2 (by decide))).trans e261
                    exact tr_vret hZ dX7_step_173 rfl (by decide) (by decide) ⟨rfl, rfl, rfl, rfl, rfl, hS270, trivial⟩
                · skip
                  exfalso; omega
              · skip
                refine tr_iload_n dX7_step_112 rfl ?_
                refine q_bipush dX7_step_113 (by decide +kernel) ?_
                intro v275 h276
                refine q_icmp_gt 138 dX7_step_115 (by decide) (fun h277 => ?_) (fun h277 => ?_)
                · skip
                  refine tr_aload_n dX7_step_138 hl1 ?_
                  refine tr_iload_n dX7_step_139 rfl ?_
                  refine q_bipush dX7_step_140 (by decide +kernel) ?_
                  intro v278 h279
                  refine q_icmp_ne 149 dX7_step_142 (by decide) (fun h280 => ?_) (fun h280 => ?_)
                  · skip
                    refine tr_iload_n dX7_step_149 rfl ?_
                    refine q_bipush dX7_step_150 (by decide +kernel) ?_
                    intro v281 h282
                    refine q_icmp_ne 159 dX7_step_152 (by decide) (fun h283 => ?_) (fun h283 => ?_)
                    · skip
                      refine q_iconst dX7_step_159 (by decide) ?_
                      intro v284 h285
                      refine q_putI dX7_step_160 fl7_58 (kR7 hS219.1 ta0) (Or.inl rfl) hS219 ta0 (by show (0 : Int) ≤ v284.toInt ∧ v284.toInt ≤ (5 : Int); omega) rfl (by decide +kernel) ?_
                      intro I286 hS287 e288 f289
                      have c290 : I286 a0 2 = v5 := (f289 _ _ (fun q => absurd q.2 (by decide))).trans c222
                      have c291 : I286 a0 4 = v5 := (f289 _ _ (fun q => absurd q.2 (by decide))).trans e220
                      refine tr_aload_n dX7_step_163 hl1 ?_
                      refine tr_dup dX7_step_164 rfl ?_
                      refine q_getI dX7_step_165 fl7_48 (kR7 hS287.1 ta0) c290 ?_
                      refine q_iconst dX7_step_168 (by decide) ?_
                      intro v292 h293
                      refine q_iaddE dX7_step_169 (by intros; omega) ?_
                      intro v294 h295
                      refine q_putI dX7_step_170 fl7_48 (kR7 hS287.1 ta0) (Or.inl rfl) hS287 ta0 (by show (0 : Int) ≤ v294.toInt ∧ v294.toInt ≤ (900 : Int); omega) rfl (by decide +kernel) ?_
                      intro I296 hS297 e298 f299
                      have c300 : I296 a0 4 = v5 := (f299 _ _ (fun q => absurd q.2 (by decide))).trans c291
                      have c301 : I296 a0 3 = v284 := (f299 _ _ (fun q => absurd q.2 (by decide))).trans e288
                      exact tr_vret hZ dX7_step_173 rfl (by decide) (by decide) ⟨rfl, rfl, rfl, rfl, rfl, hS297, trivial⟩
                    · skip
                      exfalso; omega
                  · skip
                    refine q_iconst dX7_step_145 (by decide) ?_
                    intro v302 h303
                    refine tr_goto 160 dX7_step_146 (by decide) ?_
                    refine q_putI dX7_step_160 fl7_58 (kR7 hS219.1 ta0) (Or.inl rfl) hS219 ta0 (by show (0 : Int) ≤ v302.toInt ∧ v302.toInt ≤ (5 : Int); omega) rfl (by decide +kernel) ?_
                    intro I304 hS305 e306 f307
                    have c308 : I304 a0 2 = v5 := (f307 _ _ (fun q => absurd q.2 (by decide))).trans c222
                    have c309 : I304 a0 4 = v5 := (f307 _ _ (fun q => absurd q.2 (by decide))).trans e220
                    refine tr_aload_n dX7_step_163 hl1 ?_
                    refine tr_dup dX7_step_164 rfl ?_
                    refine q_getI dX7_step_165 fl7_48 (kR7 hS305.1 ta0) c308 ?_
                    refine q_iconst dX7_step_168 (by decide) ?_
                    intro v310 h311
                    refine q_iaddE dX7_step_169 (by intros; omega) ?_
                    intro v312 h313
                    refine q_putI dX7_step_170 fl7_48 (kR7 hS305.1 ta0) (Or.inl rfl) hS305 ta0 (by show (0 : Int) ≤ v312.toInt ∧ v312.toInt ≤ (900 : Int); omega) rfl (by decide +kernel) ?_
                    intro I314 hS315 e316 f317
                    have c318 : I314 a0 4 = v5 := (f317 _ _ (fun q => absurd q.2 (by decide))).trans c309
                    have c319 : I314 a0 3 = v302 := (f317 _ _ (fun q => absurd q.2 (by decide))).trans e306
                    exact tr_vret hZ dX7_step_173 rfl (by decide) (by decide) ⟨rfl, rfl, rfl, rfl, rfl, hS315, trivial⟩
                · skip
                  refine tr_aload_n dX7_step_118 hl1 ?_
                  refine tr_aload_n dX7_step_119 hl1 ?_
                  refine q_callVi hE (M' := mX7_stepWhole) (as := []) dX7_step_120 lk7_75 inX7_stepWhole seX7_stepWhole myX7_stepWhole (by decide) ⟨by decide, by decide⟩ rfl (kR7 hS219.1 ta0) (Nat.le_of_ble_eq_true rfl) rfl rfl (by decide) (by decide) (k_X7_stepWhole hS219.1 ta0) ?_
                  rintro v324 cn' K' N' I320 R321 L322 ⟨rfl, rfl, rfl, rfl, rfl, g323, -⟩
                  have hS325 := hS219.tr g323 (by decide +kernel) (by decide +kernel)
                  have c326 : I320 a0 4 = v5 := (g323.cell ta0 (by decide +kernel)).trans e220
                  refine q_iconst dX7_step_123 (by decide) ?_
                  intro v327 h328
                  refine q_icmp_gt 131 dX7_step_124 (by decide) (fun h329 => ?_) (fun h329 => ?_)
                  · skip
                    refine q_iconst dX7_step_131 (by decide) ?_
                    intro v330 h331
                    refine q_putI dX7_step_132 fl7_58 (kR7 hS325.1 ta0) (Or.inl rfl) hS325 ta0 (by show (0 : Int) ≤ v330.toInt ∧ v330.toInt ≤ (5 : Int); omega) rfl (by decide +kernel) ?_
                    intro I332 hS333 e334 f335
                    have c336 : I332 a0 4 = v5 := (f335 _ _ (fun q => absurd q.2 (by decide))).trans c326
                    refine tr_goto 173 dX7_step_135 (by decide) ?_
                    exact tr_vret hZ dX7_step_173 rfl (by decide) (by decide) ⟨rfl, rfl, rfl, rfl, rfl, hS333, trivial⟩
                  · skip
                    refine q_iconst dX7_step_127 (by decide) ?_
                    intro v337 h338
                    refine tr_goto 132 dX7_step_128 (by decide) ?_
                    refine q_putI dX7_step_132 fl7_58 (kR7 hS325.1 ta0) (Or.inl rfl) hS325 ta0 (by show (0 : Int) ≤ v337.toInt ∧ v337.toInt ≤ (5 : Int); omega) rfl (by decide +kernel) ?_
                    intro I339 hS340 e341 f342
                    have c343 : I339 a0 4 = v5 := (f342 _ _ (fun q => absurd q.2 (by decide))).trans c326
                    refine tr_goto 173 dX7_step_135 (by decide) ?_
                    exact tr_vret hZ dX7_step_173 rfl (by decide) (by decide) ⟨rfl, rfl, rfl, rfl, rfl, hS340, trivial⟩
            · skip
              refine tr_iload_n dX7_step_79 rfl ?_
              refine q_bipush dX7_step_80 (by decide +kernel) ?_
              intro v344 h345
              refine q_icmp_gt 106 dX7_step_82 (by decide) (fun h346 => ?_) (fun h346 => ?_)
              · skip
                refine tr_iload_n dX7_step_106 rfl ?_
                refine q_bipush dX7_step_107 (by decide +kernel) ?_
                intro v347 h348
                refine q_icmp_lt 138 dX7_step_109 (by decide) (fun h349 => ?_) (fun h349 => ?_)
                · skip
                  exfalso; omega
                · skip
                  refine tr_iload_n dX7_step_112 rfl ?_
                  refine q_bipush dX7_step_113 (by decide +kernel) ?_
                  intro v350 h351
                  refine q_icmp_gt 138 dX7_step_115 (by decide) (fun h352 => ?_) (fun h352 => ?_)
                  · skip
                    refine tr_aload_n dX7_step_138 hl1 ?_
                    refine tr_iload_n dX7_step_139 rfl ?_
                    refine q_bipush dX7_step_140 (by decide +kernel) ?_
                    intro v353 h354
                    refine q_icmp_ne 149 dX7_step_142 (by decide) (fun h355 => ?_) (fun h355 => ?_)
                    · skip
                      refine tr_iload_n dX7_step_149 rfl ?_
                      refine q_bipush dX7_step_150 (by decide +kernel) ?_
                      intro v356 h357
                      refine q_icmp_ne 159 dX7_step_152 (by decide) (fun h358 => ?_) (fun h358 => ?_)
                      · skip
                        refine q_iconst dX7_step_159 (by decide) ?_
                        intro v359 h360
                        refine q_putI dX7_step_160 fl7_58 (kR7 hS219.1 ta0) (Or.inl rfl) hS219 ta0 (by show (0 : Int) ≤ v359.toInt ∧ v359.toInt ≤ (5 : Int); omega) rfl (by decide +kernel) ?_
                        intro I361 hS362 e363 f364
                        have c365 : I361 a0 2 = v5 := (f364 _ _ (fun q => absurd q.2 (by decide))).trans c222
                        have c366 : I361 a0 4 = v5 := (f364 _ _ (fun q => absurd q.2 (by decide))).trans e220
                        refine tr_aload_n dX7_step_163 hl1 ?_
                        refine tr_dup dX7_step_164 rfl ?_
                        refine q_getI dX7_step_165 fl7_48 (kR7 hS362.1 ta0) c365 ?_
                        refine q_iconst dX7_step_168 (by decide) ?_
                        intro v367 h368
                        refine q_iaddE dX7_step_169 (by intros; omega) ?_
                        intro v369 h370
                        refine q_putI dX7_step_170 fl7_48 (kR7 hS362.1 ta0) (Or.inl rfl) hS362 ta0 (by show (0 : Int) ≤ v369.toInt ∧ v369.toInt ≤ (900 : Int); omega) rfl (by decide +kernel) ?_
                        intro I371 hS372 e373 f374
                        have c375 : I371 a0 4 = v5 := (f374 _ _ (fun q => absurd q.2 (by decide))).trans c366
                        have c376 : I371 a0 3 = v359 := (f374 _ _ (fun q => absurd q.2 (by decide))).trans e363
                        exact tr_vret hZ dX7_step_173 rfl (by decide) (by decide) ⟨rfl, rfl, rfl, rfl, rfl, hS372, trivial⟩
                      · skip
                        exfalso; omega
                    · skip
                      exfalso; omega
                  · skip
                    exfalso; omega
              · skip
                refine tr_aload_n dX7_step_85 hl1 ?_
                refine tr_aload_n dX7_step_86 hl1 ?_
                refine q_callVi hE (M' := mX7_stepWord) (as := []) dX7_step_87 lk7_71 inX7_stepWord seX7_stepWord myX7_stepWord (by decide) ⟨by decide, by decide⟩ rfl (kR7 hS219.1 ta0) (Nat.le_of_ble_eq_true rfl) rfl rfl (by decide) (by decide) (k_X7_stepWord hS219.1 ta0) ?_
                rintro v381 cn' K' N' I377 R378 L379 ⟨rfl, rfl, rfl, rfl, g380, -⟩
                have hS382 := hS219.tr g380 (by decide +kernel) (by decide +kernel)
                have c383 : I377 a0 4 = v5 := (g380.cell ta0 (by decide +kernel)).trans e220
                refine q_bipush dX7_step_90 (by decide +kernel) ?_
                intro v384 h385
                refine q_icmp_gt 99 dX7_step_92 (by decide) (fun h386 => ?_) (fun h386 => ?_)
                · skip
                  refine q_iconst dX7_step_99 (by decide) ?_
                  intro v387 h388
                  refine q_putI dX7_step_100 fl7_58 (kR7 hS382.1 ta0) (Or.inl rfl) hS382 ta0 (by show (0 : Int) ≤ v387.toInt ∧ v387.toInt ≤ (5 : Int); omega) rfl (by decide +kernel) ?_
                  intro I389 hS390 e391 f392
                  have c393 : I389 a0 4 = v5 := (f392 _ _ (fun q => absurd q.2 (by decide))).trans c383
                  refine tr_goto 173 dX7_step_103 (by decide) ?_
                  exact tr_vret hZ dX7_step_173 rfl (by decide) (by decide) ⟨rfl, rfl, rfl, rfl, rfl, hS390, trivial⟩
                · skip
                  refine q_iconst dX7_step_95 (by decide) ?_
                  intro v394 h395
                  refine tr_goto 100 dX7_step_96 (by decide) ?_
                  refine q_putI dX7_step_100 fl7_58 (kR7 hS382.1 ta0) (Or.inl rfl) hS382 ta0 (by show (0 : Int) ≤ v394.toInt ∧ v394.toInt ≤ (5 : Int); omega) rfl (by decide +kernel) ?_
                  intro I396 hS397 e398 f399
                  have c400 : I396 a0 4 = v5 := (f399 _ _ (fun q => absurd q.2 (by decide))).trans c383
                  refine tr_goto 173 dX7_step_103 (by decide) ?_
                  exact tr_vret hZ dX7_step_173 rfl (by decide) (by decide) ⟨rfl, rfl, rfl, rfl, rfl, hS397, trivial⟩
          · skip
            refine tr_aload_n dX7_step_57 hl1 ?_
            refine q_iconst dX7_step_58 (by decide) ?_
            intro v401 h402
            refine q_putI dX7_step_59 fl7_58 (kR7 hS219.1 ta0) (Or.inl rfl) hS219 ta0 (by show (0 : Int) ≤ v401.toInt ∧ v401.toInt ≤ (5 : Int); omega) rfl (by decide +kernel) ?_
            intro I403 hS404 e405 f406
            have c407 : I403 a0 2 = v5 := (f406 _ _ (fun q => absurd q.2 (by decide))).trans c222
            have c408 : I403 a0 4 = v5 := (f406 _ _ (fun q => absurd q.2 (by decide))).trans e220
            exact tr_vret hZ dX7_step_62 rfl (by decide) (by decide) ⟨rfl, rfl, rfl, rfl, rfl, hS404, trivial⟩
        · skip
          refine tr_aload_n dX7_step_25 hl1 ?_
          refine tr_dup dX7_step_26 rfl ?_
          refine q_getI dX7_step_27 fl7_48 (kR7 hS4.1 ta0) c6 ?_
          refine q_iconst dX7_step_30 (by decide) ?_
          intro v409 h410
          refine q_iaddE dX7_step_31 (by intros; omega) ?_
          intro v411 h412
          refine q_putI dX7_step_32 fl7_48 (kR7 hS4.1 ta0) (Or.inl rfl) hS4 ta0 (by show (0 : Int) ≤ v411.toInt ∧ v411.toInt ≤ (900 : Int); omega) rfl (by decide +kernel) ?_
          intro I413 hS414 e415 f416
          refine tr_goto 0 dX7_step_35 (by decide) ?_
          exact ih10 _ I413 L3 v411 hl1 hS414 e415 (by omega)
  exact lp10 _ _ I0 L0 v7 rfl hS0 c8 (Nat.lt_succ_self _)
def wi_X7_fail : List Nat := [463, 464]
def wr_X7_fail : List Nat := []
set_option maxHeartbeats 4000000 in
theorem k_X7_fail {l : Launch} {T : Nat → Nat} {cn : Nat} {K N : Nat → Nat} {I0 : cz_I} {R0 : cz_R} {L0 : cz_L} {d : Int} (hW0 : Wf T cn K N I0 R0 d) {a0 : Nat} (ta0 : T a0 = 7) {x1 : Int32} : ConE l mX7_fail [.ref a0, .int x1] cn K N I0 R0 L0 (ca_i (fun v cn' K' N' I' R' L' => cn = cn' ∧ K = K' ∧ N = N' ∧ R0 = R' ∧ L0 = L' ∧ St T cn K N d wi_X7_fail wr_X7_fail I0 R0 I' R0 ∧ (0 ≤ v.toInt ∧ v.toInt ≤ 0) ∧ True)) := by
  refine ConE.of (by decide +kernel) rfl (Nat.le_of_ble_eq_true rfl) rfl (fun X hX hZ hE => ?_)
  subst hX
  have hS0 : St T cn K N d wi_X7_fail wr_X7_fail I0 R0 I0 R0 := St.rf0 hW0
  refine tr_aload_n dX7_fail_0 rfl ?_
  refine tr_iload_n dX7_fail_1 rfl ?_
  refine q_putI dX7_fail_2 fl7_38 (kR7 hS0.1 ta0) (Or.inl rfl) hS0 ta0 (iokF rfl) rfl (by decide +kernel) ?_
  intro I1 hS2 e3 f4
  refine tr_aload_n dX7_fail_5 rfl ?_
  refine tr_aload_n dX7_fail_6 rfl ?_
  obtain ⟨v5, c6⟩ : ∃ v, I0 a0 4 = v := ⟨_, rfl⟩
  have b7 := iv7_4 hW0 ta0 c6
  refine q_getI dX7_fail_7 fl7_68 (kR7 hS2.1 ta0) ((hS2.cell ta0 (by decide +kernel)).trans c6) ?_
  refine q_putI dX7_fail_10 fl7_42 (kR7 hS2.1 ta0) (Or.inl rfl) hS2 ta0 (iokF rfl) rfl (by decide +kernel) ?_
  intro I8 hS9 e10 f11
  have c12 : I8 a0 15 = x1 := (f11 _ _ (fun q => absurd q.2 (by decide))).trans e3
  refine q_iconst dX7_fail_13 (by decide) ?_
  intro v13 h14
  exact tr_zret hZ dX7_fail_14 rfl (ti_b01 (by omega) (by omega)) (by decide) (by decide) ⟨v13, rfl, rfl, rfl, rfl, rfl, rfl, hS9, (by omega), trivial⟩
set_option maxHeartbeats 4000000 in
theorem k_X7_lineWord {l : Launch} {T : Nat → Nat} {cn : Nat} {K N : Nat → Nat} {I0 : cz_I} {R0 : cz_R} {L0 : cz_L} {d : Int} (hW0 : Wf T cn K N I0 R0 d) {x0 : Int32} : ConE l mX7_lineWord [.int x0] cn K N I0 R0 L0 (ca_s (fun v cn' K' N' I' R' L' => cn = cn' ∧ K = K' ∧ N = N' ∧ I0 = I' ∧ R0 = R' ∧ L0 = L' ∧ v.toNat < cz_NS ∧ True)) := by
  refine ConE.of (by decide +kernel) rfl (Nat.le_of_ble_eq_true rfl) rfl (fun X hX hZ hE => ?_)
  subst hX
  refine tr_iload_n dX7_lineWord_0 rfl ?_
  by_cases h1 : x0.toInt = 0
  · skip
    refine tr_tabIn (off := 55) 56 dX7_lineWord_1 (by omega) (by omega) (by rw [h1]; decide +kernel) (by decide) ?_
    refine tr_ldcS dX7_lineWord_56 ld7_131 ?_
    exact tr_aretS hZ dX7_lineWord_58 rfl (by decide) (by decide) ⟨(7 : UInt32), rfl, rfl, rfl, rfl, rfl, rfl, rfl, (by decide), trivial⟩
  · skip
    by_cases h2 : x0.toInt = 1
    · skip
      refine tr_tabIn (off := 58) 59 dX7_lineWord_1 (by omega) (by omega) (by rw [h2]; decide +kernel) (by decide) ?_
      refine tr_ldcS dX7_lineWord_59 ld7_133 ?_
      exact tr_aretS hZ dX7_lineWord_61 rfl (by decide) (by decide) ⟨(11 : UInt32), rfl, rfl, rfl, rfl, rfl, rfl, rfl, (by decide), trivial⟩
    · skip
      by_cases h3 : x0.toInt = 2
      · skip
        refine tr_tabIn (off := 61) 62 dX7_lineWord_1 (by omega) (by omega) (by rw [h3]; decide +kernel) (by decide) ?_
        refine tr_ldcS dX7_lineWord_62 ld7_135 ?_
        exact tr_aretS hZ dX7_lineWord_64 rfl (by decide) (by decide) ⟨(17 : UInt32), rfl, rfl, rfl, rfl, rfl, rfl, rfl, (by decide), trivial⟩
      · skip
        by_cases h4 : x0.toInt = 3
        · skip
          refine tr_tabIn (off := 64) 65 dX7_lineWord_1 (by omega) (by omega) (by rw [h4]; decide +kernel) (by decide) ?_
          refine tr_ldcS dX7_lineWord_65 ld7_137 ?_
          exact tr_aretS hZ dX7_lineWord_67 rfl (by decide) (by decide) ⟨(22 : UInt32), rfl, rfl, rfl, rfl, rfl, rfl, rfl, (by decide), trivial⟩
        · skip
          by_cases h5 : x0.toInt = 4
          · skip
            refine tr_tabIn (off := 67) 68 dX7_lineWord_1 (by omega) (by omega) (by rw [h5]; decide +kernel) (by decide) ?_
            refine tr_ldcS dX7_lineWord_68 ld7_139 ?_
            exact tr_aretS hZ dX7_lineWord_70 rfl (by decide) (by decide) ⟨(4 : UInt32), rfl, rfl, rfl, rfl, rfl, rfl, rfl, (by decide), trivial⟩
          · skip
            by_cases h6 : x0.toInt = 5
            · skip
              refine tr_tabIn (off := 70) 71 dX7_lineWord_1 (by omega) (by omega) (by rw [h6]; decide +kernel) (by decide) ?_
              refine tr_ldcS dX7_lineWord_71 ld7_141 ?_
              exact tr_aretS hZ dX7_lineWord_73 rfl (by decide) (by decide) ⟨(6 : UInt32), rfl, rfl, rfl, rfl, rfl, rfl, rfl, (by decide), trivial⟩
            · skip
              by_cases h7 : x0.toInt = 6
              · skip
                refine tr_tabIn (off := 73) 74 dX7_lineWord_1 (by omega) (by omega) (by rw [h7]; decide +kernel) (by decide) ?_
                refine tr_ldcS dX7_lineWord_74 ld7_143 ?_
                exact tr_aretS hZ dX7_lineWord_76 rfl (by decide) (by decide) ⟨(0 : UInt32), rfl, rfl, rfl, rfl, rfl, rfl, rfl, (by decide), trivial⟩
              · skip
                by_cases h8 : x0.toInt = 7
                · skip
                  refine tr_tabIn (off := 76) 77 dX7_lineWord_1 (by omega) (by omega) (by rw [h8]; decide +kernel) (by decide) ?_
                  refine tr_ldcS dX7_lineWord_77 ld7_145 ?_
                  exact tr_aretS hZ dX7_lineWord_79 rfl (by decide) (by decide) ⟨(26 : UInt32), rfl, rfl, rfl, rfl, rfl, rfl, rfl, (by decide), trivial⟩
                · skip
                  by_cases h9 : x0.toInt = 8
                  · skip
                    refine tr_tabIn (off := 79) 80 dX7_lineWord_1 (by omega) (by omega) (by rw [h9]; decide +kernel) (by decide) ?_
                    refine tr_ldcS dX7_lineWord_80 ld7_147 ?_
                    exact tr_aretS hZ dX7_lineWord_82 rfl (by decide) (by decide) ⟨(5 : UInt32), rfl, rfl, rfl, rfl, rfl, rfl, rfl, (by decide), trivial⟩
                  · skip
                    by_cases h10 : x0.toInt = 9
                    · skip
                      refine tr_tabIn (off := 82) 83 dX7_lineWord_1 (by omega) (by omega) (by rw [h10]; decide +kernel) (by decide) ?_
                      refine tr_ldcS dX7_lineWord_83 ld7_149 ?_
                      exact tr_aretS hZ dX7_lineWord_85 rfl (by decide) (by decide) ⟨(23 : UInt32), rfl, rfl, rfl, rfl, rfl, rfl, rfl, (by decide), trivial⟩
                    · skip
                      refine tr_tabOut 86 dX7_lineWord_1 (by omega) (by decide) ?_
                      refine tr_ldcS dX7_lineWord_86 ld7_151 ?_
                      exact tr_aretS hZ dX7_lineWord_88 rfl (by decide) (by decide) ⟨(1 : UInt32), rfl, rfl, rfl, rfl, rfl, rfl, rfl, (by decide), trivial⟩
set_option maxHeartbeats 4000000 in
theorem k_X7_sortOfWord {l : Launch} {T : Nat → Nat} {cn : Nat} {K N : Nat → Nat} {I0 : cz_I} {R0 : cz_R} {L0 : cz_L} {d : Int} (hW0 : Wf T cn K N I0 R0 d) {a0 : Nat} (ta0 : T a0 = 7) : ConE l mX7_sortOfWord [.ref a0] cn K N I0 R0 L0 (ca_i (fun v cn' K' N' I' R' L' => cn = cn' ∧ K = K' ∧ N = N' ∧ I0 = I' ∧ R0 = R' ∧ L0 = L' ∧ ((-1) ≤ v.toInt ∧ v.toInt ≤ 10) ∧ True)) := by
  refine ConE.of (by decide +kernel) rfl (Nat.le_of_ble_eq_true rfl) rfl (fun X hX hZ hE => ?_)
  subst hX
  refine q_iconst dX7_sortOfWord_0 (by decide) ?_
  intro v1 h2
  refine tr_istore_n dX7_sortOfWord_1 (by decide) (by decide) ?_
  have lp7 : ∀ (fu : Nat) (ls : Nat → Option Value) (v3 : Int32), ls 0 = some (.ref a0) → ls 1 = some (.int v3) → 0 ≤ v3.toInt → (-v3.toInt + 2147483647).toNat < fu → Tr X mX7_sortOfWord 2 ls [] cn K N I0 R0 L0 0 0 := by
    intro fu
    induction fu with
    | zero => intros; rename_i hz; exact absurd hz (Nat.not_lt_zero _)
    | succ fu ih7 =>
      intro ls v3 hl4 hl5 g6 hm7
      refine tr_iload_n dX7_sortOfWord_2 hl5 ?_
      refine q_bipush dX7_sortOfWord_3 (by decide +kernel) ?_
      intro v9 h10
      refine q_icmp_gt 39 dX7_sortOfWord_5 (by decide) (fun h11 => ?_) (fun h11 => ?_)
      · skip
        refine q_iconst dX7_sortOfWord_39 (by decide) ?_
        intro v12 h13
        exact tr_iret hZ dX7_sortOfWord_40 rfl (by decide) (by decide) ⟨v12, rfl, rfl, rfl, rfl, rfl, rfl, rfl, (by omega), trivial⟩
      · skip
        refine tr_aload_n dX7_sortOfWord_8 hl4 ?_
        obtain ⟨v14, c15⟩ : ∃ v, I0 a0 3 = v := ⟨_, rfl⟩
        have b16 := iv7_3 hW0 ta0 c15
        refine q_getI dX7_sortOfWord_9 fl7_58 (kR7 hW0 ta0) c15 ?_
        refine q_iconst dX7_sortOfWord_12 (by decide) ?_
        intro v17 h18
        refine q_icmp_ne 33 dX7_sortOfWord_13 (by decide) (fun h19 => ?_) (fun h19 => ?_)
        · skip
          refine q_iincE dX7_sortOfWord_33 hl5 (by decide) (by decide) (by intros; omega) ?_
          intro v20 h21
          refine tr_goto 2 dX7_sortOfWord_36 (by decide) ?_
          exact ih7 _ v20 hl4 rfl (by omega) (by omega)
        · skip
          refine tr_aload_n dX7_sortOfWord_16 hl4 ?_
          refine q_getL dX7_sortOfWord_17 fl7_78 (kR7 hW0 ta0) ?_
          intro y22
          refine tr_iload_n dX7_sortOfWord_20 hl5 ?_
          refine q_callSs hE (M' := mX7_lineWord) (as := [_]) dX7_sortOfWord_21 lk7_152 inX7_lineWord myX7_lineWord ⟨by decide, by decide⟩ rfl (Nat.le_of_ble_eq_true rfl) rfl rfl (by decide) (by decide) (k_X7_lineWord hW0 ) ?_
          rintro u27 cn' K' N' I23 R24 L25 ⟨rfl, rfl, rfl, rfl, rfl, rfl, tu27, -⟩
          refine q_callSl hE (M' := mX7_packed) (as := [_]) dX7_sortOfWord_24 lk7_97 inX7_packed myX7_packed ⟨by decide, by decide⟩ rfl (Nat.le_of_ble_eq_true rfl) rfl rfl (by decide) (by decide) (k_X7_packed hW0 tu27) ?_
          rintro y32 cn' K' N' I28 R29 L30 ⟨rfl, rfl, rfl, rfl, rfl, rfl, -⟩
          refine q_lcmp dX7_sortOfWord_27 ?_
          intro v33
          refine q_if_ne 33 dX7_sortOfWord_28 (by decide) (fun h34 => ?_) (fun h34 => ?_)
          · skip
            refine q_iincE dX7_sortOfWord_33 hl5 (by decide) (by decide) (by intros; omega) ?_
            intro v35 h36
            refine tr_goto 2 dX7_sortOfWord_36 (by decide) ?_
            exact ih7 _ v35 hl4 rfl (by omega) (by omega)
          · skip
            refine tr_iload_n dX7_sortOfWord_31 hl5 ?_
            exact tr_iret hZ dX7_sortOfWord_32 rfl (by decide) (by decide) ⟨v3, rfl, rfl, rfl, rfl, rfl, rfl, rfl, (by omega), trivial⟩
  exact lp7 _ _ v1 rfl rfl (by omega) (Nat.lt_succ_self _)
set_option maxHeartbeats 4000000 in
theorem k_X7_isToldAgain {l : Launch} {T : Nat → Nat} {cn : Nat} {K N : Nat → Nat} {I0 : cz_I} {R0 : cz_R} {L0 : cz_L} {d : Int} (hW0 : Wf T cn K N I0 R0 d) {a0 : Nat} (ta0 : T a0 = 7) {x1 : Int32} : ConE l mX7_isToldAgain [.ref a0, .int x1] cn K N I0 R0 L0 (ca_i (fun v cn' K' N' I' R' L' => cn = cn' ∧ K = K' ∧ N = N' ∧ I0 = I' ∧ R0 = R' ∧ L0 = L' ∧ (0 ≤ v.toInt ∧ v.toInt ≤ 1) ∧ True)) := by
  refine ConE.of (by decide +kernel) rfl (Nat.le_of_ble_eq_true rfl) rfl (fun X hX hZ hE => ?_)
  subst hX
  refine tr_iload_n dX7_isToldAgain_0 rfl ?_
  refine q_bipush dX7_isToldAgain_1 (by decide +kernel) ?_
  intro v1 h2
  refine q_icmp_ne 13 dX7_isToldAgain_3 (by decide) (fun h3 => ?_) (fun h3 => ?_)
  · skip
    refine tr_iload_n dX7_isToldAgain_13 rfl ?_
    refine q_bipush dX7_isToldAgain_14 (by decide +kernel) ?_
    intro v4 h5
    refine q_icmp_ne 30 dX7_isToldAgain_16 (by decide) (fun h6 => ?_) (fun h6 => ?_)
    · skip
      refine q_iconst dX7_isToldAgain_30 (by decide) ?_
      intro v7 h8
      exact tr_zret hZ dX7_isToldAgain_31 rfl (ti_b01 (by omega) (by omega)) (by decide) (by decide) ⟨v7, rfl, rfl, rfl, rfl, rfl, rfl, rfl, (by omega), trivial⟩
    · skip
      refine tr_aload_n dX7_isToldAgain_19 rfl ?_
      obtain ⟨v9, c10⟩ : ∃ v, I0 a0 12 = v := ⟨_, rfl⟩
      have b11 := iv7_12 hW0 ta0 c10
      refine q_getZ dX7_isToldAgain_20 fl7_35 (kR7 hW0 ta0) c10 ?_
      refine q_if_eq 30 dX7_isToldAgain_23 (by decide) (fun h12 => ?_) (fun h12 => ?_)
      · skip
        refine q_iconst dX7_isToldAgain_30 (by decide) ?_
        intro v13 h14
        exact tr_zret hZ dX7_isToldAgain_31 rfl (ti_b01 (by omega) (by omega)) (by decide) (by decide) ⟨v13, rfl, rfl, rfl, rfl, rfl, rfl, rfl, (by omega), trivial⟩
      · skip
        refine q_iconst dX7_isToldAgain_26 (by decide) ?_
        intro v15 h16
        refine tr_goto 31 dX7_isToldAgain_27 (by decide) ?_
        exact tr_zret hZ dX7_isToldAgain_31 rfl (ti_b01 (by omega) (by omega)) (by decide) (by decide) ⟨v15, rfl, rfl, rfl, rfl, rfl, rfl, rfl, (by omega), trivial⟩
  · skip
    refine tr_aload_n dX7_isToldAgain_6 rfl ?_
    obtain ⟨v17, c18⟩ : ∃ v, I0 a0 11 = v := ⟨_, rfl⟩
    have b19 := iv7_11 hW0 ta0 c18
    refine q_getZ dX7_isToldAgain_7 fl7_31 (kR7 hW0 ta0) c18 ?_
    refine q_if_ne 26 dX7_isToldAgain_10 (by decide) (fun h20 => ?_) (fun h20 => ?_)
    · skip
      refine q_iconst dX7_isToldAgain_26 (by decide) ?_
      intro v21 h22
      refine tr_goto 31 dX7_isToldAgain_27 (by decide) ?_
      exact tr_zret hZ dX7_isToldAgain_31 rfl (ti_b01 (by omega) (by omega)) (by decide) (by decide) ⟨v21, rfl, rfl, rfl, rfl, rfl, rfl, rfl, (by omega), trivial⟩
    · skip
      refine tr_iload_n dX7_isToldAgain_13 rfl ?_
      refine q_bipush dX7_isToldAgain_14 (by decide +kernel) ?_
      intro v23 h24
      refine q_icmp_ne 30 dX7_isToldAgain_16 (by decide) (fun h25 => ?_) (fun h25 => ?_)
      · skip
        refine q_iconst dX7_isToldAgain_30 (by decide) ?_
        intro v26 h27
        exact tr_zret hZ dX7_isToldAgain_31 rfl (ti_b01 (by omega) (by omega)) (by decide) (by decide) ⟨v26, rfl, rfl, rfl, rfl, rfl, rfl, rfl, (by omega), trivial⟩
      · skip
        exfalso; omega
set_option maxHeartbeats 4000000 in
theorem k_X7_isFull {l : Launch} {T : Nat → Nat} {cn : Nat} {K N : Nat → Nat} {I0 : cz_I} {R0 : cz_R} {L0 : cz_L} {d : Int} (hW0 : Wf T cn K N I0 R0 d) {a0 : Nat} (ta0 : T a0 = 7) {x1 : Int32} : ConE l mX7_isFull [.ref a0, .int x1] cn K N I0 R0 L0 (ca_i (fun v cn' K' N' I' R' L' => cn = cn' ∧ K = K' ∧ N = N' ∧ I0 = I' ∧ R0 = R' ∧ L0 = L' ∧ (0 ≤ v.toInt ∧ v.toInt ≤ 1) ∧ (∀ b1, R0 a0 10 = some b1 → ((v.toInt = 0 ∧ x1.toInt = 5) → (I0 b1 5).toInt ≤ 7)) ∧ (∀ b1, R0 a0 10 = some b1 → ((v.toInt = 0 ∧ x1.toInt = 7) → (I0 b1 9).toInt ≤ 4)) ∧ (∀ b1, R0 a0 10 = some b1 → ((v.toInt = 0 ∧ x1.toInt = 8) → (I0 b1 11).toInt ≤ 5)) ∧ (∀ b1, R0 a0 10 = some b1 → ((v.toInt = 0 ∧ x1.toInt = 9) → (I0 b1 13).toInt ≤ 3)) ∧ (∀ b1, R0 a0 10 = some b1 → (((v.toInt = 0 ∧ 0 ≤ x1.toInt) ∧ x1.toInt ≤ 4) → (I0 b1 3).toInt ≤ 13)) ∧ True)) := by
  refine ConE.of (by decide +kernel) rfl (Nat.le_of_ble_eq_true rfl) rfl (fun X hX hZ hE => ?_)
  subst hX
  obtain ⟨a1, d2, ta1⟩ := rf7_10 hW0 ta0
  obtain ⟨v3, c4⟩ : ∃ v, I0 a1 5 = v := ⟨_, rfl⟩
  have b5 := iv2_5 hW0 ta1 c4
  obtain ⟨v6, c7⟩ : ∃ v, I0 a1 9 = v := ⟨_, rfl⟩
  have b8 := iv2_9 hW0 ta1 c7
  obtain ⟨v9, c10⟩ : ∃ v, I0 a1 11 = v := ⟨_, rfl⟩
  have b11 := iv2_11 hW0 ta1 c10
  obtain ⟨v12, c13⟩ : ∃ v, I0 a1 13 = v := ⟨_, rfl⟩
  have b14 := iv2_13 hW0 ta1 c13
  obtain ⟨v15, c16⟩ : ∃ v, I0 a1 3 = v := ⟨_, rfl⟩
  have b17 := iv2_3 hW0 ta1 c16
  refine tr_iload_n dX7_isFull_0 rfl ?_
  by_cases h18 : x1.toInt = 5
  · skip
    refine tr_tabIn (off := 41) 42 dX7_isFull_1 (by omega) (by omega) (by rw [h18]; decide +kernel) (by decide) ?_
    refine tr_aload_n dX7_isFull_42 rfl ?_
    refine tr_getR dX7_isFull_43 fl7_22 (kR7 hW0 ta0) d2 ?_
    refine q_getI dX7_isFull_46 fl7_61 (kR2 hW0 ta1) c4 ?_
    refine q_bipush dX7_isFull_49 (by decide +kernel) ?_
    intro v19 h20
    refine q_icmp_lt 58 dX7_isFull_51 (by decide) (fun h21 => ?_) (fun h21 => ?_)
    · skip
      refine q_iconst dX7_isFull_58 (by decide) ?_
      intro v22 h23
      exact tr_zret hZ dX7_isFull_59 rfl (ti_b01 (by omega) (by omega)) (by decide) (by decide) ⟨v22, rfl, rfl, rfl, rfl, rfl, rfl, rfl, (by omega), (fun q0 z0 => by obtain rfl := Option.some.inj ((d2).symm.trans z0); (try rw [c4]); (try omega)), (fun q0 z0 => by obtain rfl := Option.some.inj ((d2).symm.trans z0); (try rw [c7]); (try omega)), (fun q0 z0 => by obtain rfl := Option.some.inj ((d2).symm.trans z0); (try rw [c10]); (try omega)), (fun q0 z0 => by obtain rfl := Option.some.inj ((d2).symm.trans z0); (try rw [c13]); (try omega)), (fun q0 z0 => by obtain rfl := Option.some.inj ((d2).symm.trans z0); (try rw [c16]); (try omega)), trivial⟩
    · skip
      refine q_iconst dX7_isFull_54 (by decide) ?_
      intro v24 h25
      refine tr_goto 59 dX7_isFull_55 (by decide) ?_
      exact tr_zret hZ dX7_isFull_59 rfl (ti_b01 (by omega) (by omega)) (by decide) (by decide) ⟨v24, rfl, rfl, rfl, rfl, rfl, rfl, rfl, (by omega), (fun q0 z0 => by obtain rfl := Option.some.inj ((d2).symm.trans z0); (try rw [c4]); (try omega)), (fun q0 z0 => by obtain rfl := Option.some.inj ((d2).symm.trans z0); (try rw [c7]); (try omega)), (fun q0 z0 => by obtain rfl := Option.some.inj ((d2).symm.trans z0); (try rw [c10]); (try omega)), (fun q0 z0 => by obtain rfl := Option.some.inj ((d2).symm.trans z0); (try rw [c13]); (try omega)), (fun q0 z0 => by obtain rfl := Option.some.inj ((d2).symm.trans z0); (try rw [c16]); (try omega)), trivial⟩
  · skip
    by_cases h26 : x1.toInt = 6
    · skip
      refine tr_tabIn (off := 39) 40 dX7_isFull_1 (by omega) (by omega) (by rw [h26]; decide +kernel) (by decide) ?_
      refine q_iconst dX7_isFull_40 (by decide) ?_
      intro v27 h28
      exact tr_zret hZ dX7_isFull_41 rfl (ti_b01 (by omega) (by omega)) (by decide) (by decide) ⟨v27, rfl, rfl, rfl, rfl, rfl, rfl, rfl, (by omega), (fun q0 z0 => by obtain rfl := Option.some.inj ((d2).symm.trans z0); (try rw [c4]); (try omega)), (fun q0 z0 => by obtain rfl := Option.some.inj ((d2).symm.trans z0); (try rw [c7]); (try omega)), (fun q0 z0 => by obtain rfl := Option.some.inj ((d2).symm.trans z0); (try rw [c10]); (try omega)), (fun q0 z0 => by obtain rfl := Option.some.inj ((d2).symm.trans z0); (try rw [c13]); (try omega)), (fun q0 z0 => by obtain rfl := Option.some.inj ((d2).symm.trans z0); (try rw [c16]); (try omega)), trivial⟩
    · skip
      by_cases h29 : x1.toInt = 7
      · skip
        refine tr_tabIn (off := 59) 60 dX7_isFull_1 (by omega) (by omega) (by rw [h29]; decide +kernel) (by decide) ?_
        refine tr_aload_n dX7_isFull_60 rfl ?_
        refine tr_getR dX7_isFull_61 fl7_22 (kR7 hW0 ta0) d2 ?_
        refine q_getI dX7_isFull_64 fl7_156 (kR2 hW0 ta1) c7 ?_
        refine q_iconst dX7_isFull_67 (by decide) ?_
        intro v30 h31
        refine q_icmp_lt 75 dX7_isFull_68 (by decide) (fun h32 => ?_) (fun h32 => ?_)
        · skip
          refine q_iconst dX7_isFull_75 (by decide) ?_
          intro v33 h34
          exact tr_zret hZ dX7_isFull_76 rfl (ti_b01 (by omega) (by omega)) (by decide) (by decide) ⟨v33, rfl, rfl, rfl, rfl, rfl, rfl, rfl, (by omega), (fun q0 z0 => by obtain rfl := Option.some.inj ((d2).symm.trans z0); (try rw [c4]); (try omega)), (fun q0 z0 => by obtain rfl := Option.some.inj ((d2).symm.trans z0); (try rw [c7]); (try omega)), (fun q0 z0 => by obtain rfl := Option.some.inj ((d2).symm.trans z0); (try rw [c10]); (try omega)), (fun q0 z0 => by obtain rfl := Option.some.inj ((d2).symm.trans z0); (try rw [c13]); (try omega)), (fun q0 z0 => by obtain rfl := Option.some.inj ((d2).symm.trans z0); (try rw [c16]); (try omega)), trivial⟩
        · skip
          refine q_iconst dX7_isFull_71 (by decide) ?_
          intro v35 h36
          refine tr_goto 76 dX7_isFull_72 (by decide) ?_
          exact tr_zret hZ dX7_isFull_76 rfl (ti_b01 (by omega) (by omega)) (by decide) (by decide) ⟨v35, rfl, rfl, rfl, rfl, rfl, rfl, rfl, (by omega), (fun q0 z0 => by obtain rfl := Option.some.inj ((d2).symm.trans z0); (try rw [c4]); (try omega)), (fun q0 z0 => by obtain rfl := Option.some.inj ((d2).symm.trans z0); (try rw [c7]); (try omega)), (fun q0 z0 => by obtain rfl := Option.some.inj ((d2).symm.trans z0); (try rw [c10]); (try omega)), (fun q0 z0 => by obtain rfl := Option.some.inj ((d2).symm.trans z0); (try rw [c13]); (try omega)), (fun q0 z0 => by obtain rfl := Option.some.inj ((d2).symm.trans z0); (try rw [c16]); (try omega)), trivial⟩
      · skip
        by_cases h37 : x1.toInt = 8
        · skip
          refine tr_tabIn (off := 76) 77 dX7_isFull_1 (by omega) (by omega) (by rw [h37]; decide +kernel) (by decide) ?_
          refine tr_aload_n dX7_isFull_77 rfl ?_
          refine tr_getR dX7_isFull_78 fl7_22 (kR7 hW0 ta0) d2 ?_
          refine q_getI dX7_isFull_81 fl7_159 (kR2 hW0 ta1) c10 ?_
          refine q_bipush dX7_isFull_84 (by decide +kernel) ?_
          intro v38 h39
          refine q_icmp_lt 93 dX7_isFull_86 (by decide) (fun h40 => ?_) (fun h40 => ?_)
          · skip
            refine q_iconst dX7_isFull_93 (by decide) ?_
            intro v41 h42
            exact tr_zret hZ dX7_isFull_94 rfl (ti_b01 (by omega) (by omega)) (by decide) (by decide) ⟨v41, rfl, rfl, rfl, rfl, rfl, rfl, rfl, (by omega), (fun q0 z0 => by obtain rfl := Option.some.inj ((d2).symm.trans z0); (try rw [c4]); (try omega)), (fun q0 z0 => by obtain rfl := Option.some.inj ((d2).symm.trans z0); (try rw [c7]); (try omega)), (fun q0 z0 => by obtain rfl := Option.some.inj ((d2).symm.trans z0); (try rw [c10]); (try omega)), (fun q0 z0 => by obtain rfl := Option.some.inj ((d2).symm.trans z0); (try rw [c13]); (try omega)), (fun q0 z0 => by obtain rfl := Option.some.inj ((d2).symm.trans z0); (try rw [c16]); (try omega)), trivial⟩
          · skip
            refine q_iconst dX7_isFull_89 (by decide) ?_
            intro v43 h44
            refine tr_goto 94 dX7_isFull_90 (by decide) ?_
            exact tr_zret hZ dX7_isFull_94 rfl (ti_b01 (by omega) (by omega)) (by decide) (by decide) ⟨v43, rfl, rfl, rfl, rfl, rfl, rfl, rfl, (by omega), (fun q0 z0 => by obtain rfl := Option.some.inj ((d2).symm.trans z0); (try rw [c4]); (try omega)), (fun q0 z0 => by obtain rfl := Option.some.inj ((d2).symm.trans z0); (try rw [c7]); (try omega)), (fun q0 z0 => by obtain rfl := Option.some.inj ((d2).symm.trans z0); (try rw [c10]); (try omega)), (fun q0 z0 => by obtain rfl := Option.some.inj ((d2).symm.trans z0); (try rw [c13]); (try omega)), (fun q0 z0 => by obtain rfl := Option.some.inj ((d2).symm.trans z0); (try rw [c16]); (try omega)), trivial⟩
        · skip
          by_cases h45 : x1.toInt = 9
          · skip
            refine tr_tabIn (off := 94) 95 dX7_isFull_1 (by omega) (by omega) (by rw [h45]; decide +kernel) (by decide) ?_
            refine tr_aload_n dX7_isFull_95 rfl ?_
            refine tr_getR dX7_isFull_96 fl7_22 (kR7 hW0 ta0) d2 ?_
            refine q_getI dX7_isFull_99 fl7_162 (kR2 hW0 ta1) c13 ?_
            refine q_iconst dX7_isFull_102 (by decide) ?_
            intro v46 h47
            refine q_icmp_lt 110 dX7_isFull_103 (by decide) (fun h48 => ?_) (fun h48 => ?_)
            · skip
              refine q_iconst dX7_isFull_110 (by decide) ?_
              intro v49 h50
              exact tr_zret hZ dX7_isFull_111 rfl (ti_b01 (by omega) (by omega)) (by decide) (by decide) ⟨v49, rfl, rfl, rfl, rfl, rfl, rfl, rfl, (by omega), (fun q0 z0 => by obtain rfl := Option.some.inj ((d2).symm.trans z0); (try rw [c4]); (try omega)), (fun q0 z0 => by obtain rfl := Option.some.inj ((d2).symm.trans z0); (try rw [c7]); (try omega)), (fun q0 z0 => by obtain rfl := Option.some.inj ((d2).symm.trans z0); (try rw [c10]); (try omega)), (fun q0 z0 => by obtain rfl := Option.some.inj ((d2).symm.trans z0); (try rw [c13]); (try omega)), (fun q0 z0 => by obtain rfl := Option.some.inj ((d2).symm.trans z0); (try rw [c16]); (try omega)), trivial⟩
            · skip
              refine q_iconst dX7_isFull_106 (by decide) ?_
              intro v51 h52
              refine tr_goto 111 dX7_isFull_107 (by decide) ?_
              exact tr_zret hZ dX7_isFull_111 rfl (ti_b01 (by omega) (by omega)) (by decide) (by decide) ⟨v51, rfl, rfl, rfl, rfl, rfl, rfl, rfl, (by omega), (fun q0 z0 => by obtain rfl := Option.some.inj ((d2).symm.trans z0); (try rw [c4]); (try omega)), (fun q0 z0 => by obtain rfl := Option.some.inj ((d2).symm.trans z0); (try rw [c7]); (try omega)), (fun q0 z0 => by obtain rfl := Option.some.inj ((d2).symm.trans z0); (try rw [c10]); (try omega)), (fun q0 z0 => by obtain rfl := Option.some.inj ((d2).symm.trans z0); (try rw [c13]); (try omega)), (fun q0 z0 => by obtain rfl := Option.some.inj ((d2).symm.trans z0); (try rw [c16]); (try omega)), trivial⟩
          · skip
            by_cases h53 : x1.toInt = 10
            · skip
              refine tr_tabIn (off := 39) 40 dX7_isFull_1 (by omega) (by omega) (by rw [h53]; decide +kernel) (by decide) ?_
              refine q_iconst dX7_isFull_40 (by decide) ?_
              intro v54 h55
              exact tr_zret hZ dX7_isFull_41 rfl (ti_b01 (by omega) (by omega)) (by decide) (by decide) ⟨v54, rfl, rfl, rfl, rfl, rfl, rfl, rfl, (by omega), (fun q0 z0 => by obtain rfl := Option.some.inj ((d2).symm.trans z0); (try rw [c4]); (try omega)), (fun q0 z0 => by obtain rfl := Option.some.inj ((d2).symm.trans z0); (try rw [c7]); (try omega)), (fun q0 z0 => by obtain rfl := Option.some.inj ((d2).symm.trans z0); (try rw [c10]); (try omega)), (fun q0 z0 => by obtain rfl := Option.some.inj ((d2).symm.trans z0); (try rw [c13]); (try omega)), (fun q0 z0 => by obtain rfl := Option.some.inj ((d2).symm.trans z0); (try rw [c16]); (try omega)), trivial⟩
            · skip
              refine tr_tabOut 112 dX7_isFull_1 (by omega) (by decide) ?_
              refine tr_aload_n dX7_isFull_112 rfl ?_
              refine tr_getR dX7_isFull_113 fl7_22 (kR7 hW0 ta0) d2 ?_
              refine q_getI dX7_isFull_116 fl7_165 (kR2 hW0 ta1) c16 ?_
              refine q_bipush dX7_isFull_119 (by decide +kernel) ?_
              intro v56 h57
              refine q_icmp_lt 128 dX7_isFull_121 (by decide) (fun h58 => ?_) (fun h58 => ?_)
              · skip
                refine q_iconst dX7_isFull_128 (by decide) ?_
                intro v59 h60
                exact tr_zret hZ dX7_isFull_129 rfl (ti_b01 (by omega) (by omega)) (by decide) (by decide) ⟨v59, rfl, rfl, rfl, rfl, rfl, rfl, rfl, (by omega), (fun q0 z0 => by obtain rfl := Option.some.inj ((d2).symm.trans z0); (try rw [c4]); (try omega)), (fun q0 z0 => by obtain rfl := Option.some.inj ((d2).symm.trans z0); (try rw [c7]); (try omega)), (fun q0 z0 => by obtain rfl := Option.some.inj ((d2).symm.trans z0); (try rw [c10]); (try omega)), (fun q0 z0 => by obtain rfl := Option.some.inj ((d2).symm.trans z0); (try rw [c13]); (try omega)), (fun q0 z0 => by obtain rfl := Option.some.inj ((d2).symm.trans z0); (try rw [c16]); (try omega)), trivial⟩
              · skip
                refine q_iconst dX7_isFull_124 (by decide) ?_
                intro v61 h62
                refine tr_goto 129 dX7_isFull_125 (by decide) ?_
                exact tr_zret hZ dX7_isFull_129 rfl (ti_b01 (by omega) (by omega)) (by decide) (by decide) ⟨v61, rfl, rfl, rfl, rfl, rfl, rfl, rfl, (by omega), (fun q0 z0 => by obtain rfl := Option.some.inj ((d2).symm.trans z0); (try rw [c4]); (try omega)), (fun q0 z0 => by obtain rfl := Option.some.inj ((d2).symm.trans z0); (try rw [c7]); (try omega)), (fun q0 z0 => by obtain rfl := Option.some.inj ((d2).symm.trans z0); (try rw [c10]); (try omega)), (fun q0 z0 => by obtain rfl := Option.some.inj ((d2).symm.trans z0); (try rw [c13]); (try omega)), (fun q0 z0 => by obtain rfl := Option.some.inj ((d2).symm.trans z0); (try rw [c16]); (try omega)), trivial⟩
set_option maxHeartbeats 4000000 in
theorem k_X7_seesWord {l : Launch} {T : Nat → Nat} {cn : Nat} {K N : Nat → Nat} {I0 : cz_I} {R0 : cz_R} {L0 : cz_L} {d : Int} (hW0 : Wf T cn K N I0 R0 d) {a0 : Nat} (ta0 : T a0 = 7) {u1 : UInt32} (hu1 : u1.toNat < cz_NS) : ConE l mX7_seesWord [.ref a0, .float u1] cn K N I0 R0 L0 (ca_i (fun v cn' K' N' I' R' L' => cn = cn' ∧ K = K' ∧ N = N' ∧ I0 = I' ∧ R0 = R' ∧ L0 = L' ∧ (0 ≤ v.toInt ∧ v.toInt ≤ 1) ∧ True)) := by
  refine ConE.of (by decide +kernel) rfl (Nat.le_of_ble_eq_true rfl) rfl (fun X hX hZ hE => ?_)
  subst hX
  refine tr_aload_n dX7_seesWord_0 rfl ?_
  obtain ⟨v1, c2⟩ : ∃ v, I0 a0 3 = v := ⟨_, rfl⟩
  have b3 := iv7_3 hW0 ta0 c2
  refine q_getI dX7_seesWord_1 fl7_58 (kR7 hW0 ta0) c2 ?_
  refine q_iconst dX7_seesWord_4 (by decide) ?_
  intro v4 h5
  refine q_icmp_ne 24 dX7_seesWord_5 (by decide) (fun h6 => ?_) (fun h6 => ?_)
  · skip
    refine q_iconst dX7_seesWord_24 (by decide) ?_
    intro v7 h8
    exact tr_zret hZ dX7_seesWord_25 rfl (ti_b01 (by omega) (by omega)) (by decide) (by decide) ⟨v7, rfl, rfl, rfl, rfl, rfl, rfl, rfl, (by omega), trivial⟩
  · skip
    refine tr_aload_n dX7_seesWord_8 rfl ?_
    refine q_getL dX7_seesWord_9 fl7_78 (kR7 hW0 ta0) ?_
    intro y9
    refine tr_aload_nS dX7_seesWord_12 rfl ?_
    refine q_callSl hE (M' := mX7_packed) (as := [_]) dX7_seesWord_13 lk7_97 inX7_packed myX7_packed ⟨by decide, by decide⟩ rfl (Nat.le_of_ble_eq_true rfl) rfl rfl (by decide) (by decide) (k_X7_packed hW0 hu1) ?_
    rintro y14 cn' K' N' I10 R11 L12 ⟨rfl, rfl, rfl, rfl, rfl, rfl, -⟩
    refine q_lcmp dX7_seesWord_16 ?_
    intro v15
    refine q_if_ne 24 dX7_seesWord_17 (by decide) (fun h16 => ?_) (fun h16 => ?_)
    · skip
      refine q_iconst dX7_seesWord_24 (by decide) ?_
      intro v17 h18
      exact tr_zret hZ dX7_seesWord_25 rfl (ti_b01 (by omega) (by omega)) (by decide) (by decide) ⟨v17, rfl, rfl, rfl, rfl, rfl, rfl, rfl, (by omega), trivial⟩
    · skip
      refine q_iconst dX7_seesWord_20 (by decide) ?_
      intro v19 h20
      refine tr_goto 25 dX7_seesWord_21 (by decide) ?_
      exact tr_zret hZ dX7_seesWord_25 rfl (ti_b01 (by omega) (by omega)) (by decide) (by decide) ⟨v19, rfl, rfl, rfl, rfl, rfl, rfl, rfl, (by omega), trivial⟩
def wi_X7_takeWord : List Nat := [450, 451, 452, 454, 463, 464]
def wr_X7_takeWord : List Nat := []
set_option maxHeartbeats 4000000 in
theorem k_X7_takeWord {l : Launch} {T : Nat → Nat} {cn : Nat} {K N : Nat → Nat} {I0 : cz_I} {R0 : cz_R} {L0 : cz_L} {d : Int} (hW0 : Wf T cn K N I0 R0 d) {a0 : Nat} (ta0 : T a0 = 7) {u1 : UInt32} (hu1 : u1.toNat < cz_NS) : ConE l mX7_takeWord [.ref a0, .float u1] cn K N I0 R0 L0 (ca_i (fun v cn' K' N' I' R' L' => cn = cn' ∧ K = K' ∧ N = N' ∧ R0 = R' ∧ St T cn K N d wi_X7_takeWord wr_X7_takeWord I0 R0 I' R0 ∧ (0 ≤ v.toInt ∧ v.toInt ≤ 1) ∧ True)) := by
  refine ConE.of (by decide +kernel) rfl (Nat.le_of_ble_eq_true rfl) rfl (fun X hX hZ hE => ?_)
  subst hX
  have hS0 : St T cn K N d wi_X7_takeWord wr_X7_takeWord I0 R0 I0 R0 := St.rf0 hW0
  refine tr_aload_n dX7_takeWord_0 rfl ?_
  refine tr_aload_nS dX7_takeWord_1 rfl ?_
  refine q_callVi hE (M' := mX7_seesWord) (as := [_]) dX7_takeWord_2 lk7_101 inX7_seesWord seX7_seesWord myX7_seesWord (by decide) ⟨by decide, by decide⟩ rfl (kR7 hS0.1 ta0) (Nat.le_of_ble_eq_true rfl) rfl rfl (by decide) (by decide) (k_X7_seesWord hS0.1 ta0 hu1) ?_
  rintro v5 cn' K' N' I1 R2 L3 ⟨rfl, rfl, rfl, rfl, rfl, rfl, h6, -⟩
  refine q_if_ne 14 dX7_takeWord_5 (by decide) (fun h7 => ?_) (fun h7 => ?_)
  · skip
    refine tr_aload_n dX7_takeWord_14 rfl ?_
    refine q_callVv hE (M' := mX7_step) (as := []) dX7_takeWord_15 lk7_51 inX7_step seX7_step myX7_step (by decide) ⟨by decide, by decide⟩ rfl (kR7 hS0.1 ta0) (Nat.le_of_ble_eq_true rfl) rfl rfl (by decide) (by decide) (k_X7_step hS0.1 ta0) ?_
    rintro cn' K' N' I8 R9 L10 ⟨rfl, rfl, rfl, rfl, g11, -⟩
    have hS13 := hS0.tr g11 (by decide +kernel) (by decide +kernel)
    refine q_iconst dX7_takeWord_18 (by decide) ?_
    intro v14 h15
    exact tr_zret hZ dX7_takeWord_19 rfl (ti_b01 (by omega) (by omega)) (by decide) (by decide) ⟨v14, rfl, rfl, rfl, rfl, rfl, hS13, (by omega), trivial⟩
  · skip
    refine tr_aload_n dX7_takeWord_8 rfl ?_
    refine q_iconst dX7_takeWord_9 (by decide) ?_
    intro v16 h17
    refine q_callVi hE (M' := mX7_fail) (as := [_]) dX7_takeWord_10 lk7_64 inX7_fail seX7_fail myX7_fail (by decide) ⟨by decide, by decide⟩ rfl (kR7 hS0.1 ta0) (Nat.le_of_ble_eq_true rfl) rfl rfl (by decide) (by decide) (k_X7_fail hS0.1 ta0) ?_
    rintro v22 cn' K' N' I18 R19 L20 ⟨rfl, rfl, rfl, rfl, rfl, g21, h23, -⟩
    have hS24 := hS0.tr g21 (by decide +kernel) (by decide +kernel)
    exact tr_zret hZ dX7_takeWord_13 rfl (ti_b01 (by omega) (by omega)) (by decide) (by decide) ⟨v22, rfl, rfl, rfl, rfl, rfl, hS24, (by omega), trivial⟩
def wi_X7_seesWhole : List Nat := [463, 464]
def wr_X7_seesWhole : List Nat := []
set_option maxHeartbeats 4000000 in
theorem k_X7_seesWhole {l : Launch} {T : Nat → Nat} {cn : Nat} {K N : Nat → Nat} {I0 : cz_I} {R0 : cz_R} {L0 : cz_L} {d : Int} (hW0 : Wf T cn K N I0 R0 d) {a0 : Nat} (ta0 : T a0 = 7) {x1 : Int32} {x2 : Int32} : ConE l mX7_seesWhole [.ref a0, .int x1, .int x2] cn K N I0 R0 L0 (ca_i (fun v cn' K' N' I' R' L' => cn = cn' ∧ K = K' ∧ N = N' ∧ R0 = R' ∧ L0 = L' ∧ St T cn K N d wi_X7_seesWhole wr_X7_seesWhole I0 R0 I' R0 ∧ (0 ≤ v.toInt ∧ v.toInt ≤ 1) ∧ ((v.toInt = 1 → (x1.toInt ≤ (I0 a0 6).toInt ∧ (I0 a0 6).toInt ≤ x2.toInt))) ∧ True)) := by
  refine ConE.of (by decide +kernel) rfl (Nat.le_of_ble_eq_true rfl) rfl (fun X hX hZ hE => ?_)
  subst hX
  have hS0 : St T cn K N d wi_X7_seesWhole wr_X7_seesWhole I0 R0 I0 R0 := St.rf0 hW0
  obtain ⟨v1, c2⟩ : ∃ v, I0 a0 6 = v := ⟨_, rfl⟩
  refine tr_aload_n dX7_seesWhole_0 rfl ?_
  obtain ⟨v3, c4⟩ : ∃ v, I0 a0 3 = v := ⟨_, rfl⟩
  have b5 := iv7_3 hW0 ta0 c4
  refine q_getI dX7_seesWhole_1 fl7_58 (kR7 hS0.1 ta0) c4 ?_
  refine q_iconst dX7_seesWhole_4 (by decide) ?_
  intro v6 h7
  refine q_icmp_eq 14 dX7_seesWhole_5 (by decide) (fun h8 => ?_) (fun h8 => ?_)
  · skip
    refine tr_aload_n dX7_seesWhole_14 rfl ?_
    refine q_getI dX7_seesWhole_15 fl7_86 (kR7 hS0.1 ta0) c2 ?_
    refine tr_iload_n dX7_seesWhole_18 rfl ?_
    refine q_icmp_lt 30 dX7_seesWhole_19 (by decide) (fun h9 => ?_) (fun h9 => ?_)
    · skip
      refine tr_aload_n dX7_seesWhole_30 rfl ?_
      refine q_iconst dX7_seesWhole_31 (by decide) ?_
      intro v10 h11
      refine q_callVi hE (M' := mX7_fail) (as := [_]) dX7_seesWhole_32 lk7_64 inX7_fail seX7_fail myX7_fail (by decide) ⟨by decide, by decide⟩ rfl (kR7 hS0.1 ta0) (Nat.le_of_ble_eq_true rfl) rfl rfl (by decide) (by decide) (k_X7_fail hS0.1 ta0) ?_
      rintro v16 cn' K' N' I12 R13 L14 ⟨rfl, rfl, rfl, rfl, rfl, g15, h17, -⟩
      have hS18 := hS0.tr g15 (by decide +kernel) (by decide +kernel)
      refine q_if_eq 42 dX7_seesWhole_35 (by decide) (fun h19 => ?_) (fun h19 => ?_)
      · skip
        refine q_iconst dX7_seesWhole_42 (by decide) ?_
        intro v20 h21
        exact tr_zret hZ dX7_seesWhole_43 rfl (ti_b01 (by omega) (by omega)) (by decide) (by decide) ⟨v20, rfl, rfl, rfl, rfl, rfl, rfl, hS18, (by omega), (by (try rw [c2]); (try omega)), trivial⟩
      · skip
        exfalso; omega
    · skip
      refine tr_aload_n dX7_seesWhole_22 rfl ?_
      refine q_getI dX7_seesWhole_23 fl7_86 (kR7 hS0.1 ta0) c2 ?_
      refine tr_iload_n dX7_seesWhole_26 rfl ?_
      refine q_icmp_le 38 dX7_seesWhole_27 (by decide) (fun h22 => ?_) (fun h22 => ?_)
      · skip
        refine q_iconst dX7_seesWhole_38 (by decide) ?_
        intro v23 h24
        refine tr_goto 43 dX7_seesWhole_39 (by decide) ?_
        exact tr_zret hZ dX7_seesWhole_43 rfl (ti_b01 (by omega) (by omega)) (by decide) (by decide) ⟨v23, rfl, rfl, rfl, rfl, rfl, rfl, hS0, (by omega), (by (try rw [c2]); (try omega)), trivial⟩
      · skip
        refine tr_aload_n dX7_seesWhole_30 rfl ?_
        refine q_iconst dX7_seesWhole_31 (by decide) ?_
        intro v25 h26
        refine q_callVi hE (M' := mX7_fail) (as := [_]) dX7_seesWhole_32 lk7_64 inX7_fail seX7_fail myX7_fail (by decide) ⟨by decide, by decide⟩ rfl (kR7 hS0.1 ta0) (Nat.le_of_ble_eq_true rfl) rfl rfl (by decide) (by decide) (k_X7_fail hS0.1 ta0) ?_
        rintro v31 cn' K' N' I27 R28 L29 ⟨rfl, rfl, rfl, rfl, rfl, g30, h32, -⟩
        have hS33 := hS0.tr g30 (by decide +kernel) (by decide +kernel)
        refine q_if_eq 42 dX7_seesWhole_35 (by decide) (fun h34 => ?_) (fun h34 => ?_)
        · skip
          refine q_iconst dX7_seesWhole_42 (by decide) ?_
          intro v35 h36
          exact tr_zret hZ dX7_seesWhole_43 rfl (ti_b01 (by omega) (by omega)) (by decide) (by decide) ⟨v35, rfl, rfl, rfl, rfl, rfl, rfl, hS33, (by omega), (by (try rw [c2]); (try omega)), trivial⟩
        · skip
          exfalso; omega
  · skip
    refine tr_aload_n dX7_seesWhole_8 rfl ?_
    refine q_iconst dX7_seesWhole_9 (by decide) ?_
    intro v37 h38
    refine q_callVi hE (M' := mX7_fail) (as := [_]) dX7_seesWhole_10 lk7_64 inX7_fail seX7_fail myX7_fail (by decide) ⟨by decide, by decide⟩ rfl (kR7 hS0.1 ta0) (Nat.le_of_ble_eq_true rfl) rfl rfl (by decide) (by decide) (k_X7_fail hS0.1 ta0) ?_
    rintro v43 cn' K' N' I39 R40 L41 ⟨rfl, rfl, rfl, rfl, rfl, g42, h44, -⟩
    have hS45 := hS0.tr g42 (by decide +kernel) (by decide +kernel)
    exact tr_zret hZ dX7_seesWhole_13 rfl (ti_b01 (by omega) (by omega)) (by decide) (by decide) ⟨v43, rfl, rfl, rfl, rfl, rfl, rfl, hS45, (by omega), (by (try rw [c2]); (try omega)), trivial⟩
def wi_X7_takeWhole : List Nat := [450, 451, 452, 454, 455, 463, 464]
def wr_X7_takeWhole : List Nat := []
set_option maxHeartbeats 4000000 in
theorem k_X7_takeWhole {l : Launch} {T : Nat → Nat} {cn : Nat} {K N : Nat → Nat} {I0 : cz_I} {R0 : cz_R} {L0 : cz_L} {d : Int} (hW0 : Wf T cn K N I0 R0 d) {a0 : Nat} (ta0 : T a0 = 7) {x1 : Int32} (hx1 : 0 ≤ x1.toInt ∧ x1.toInt ≤ 240) {x2 : Int32} (hx2 : (-1) ≤ x2.toInt ∧ x2.toInt ≤ 240) : ConE l mX7_takeWhole [.ref a0, .int x1, .int x2] cn K N I0 R0 L0 (ca_i (fun v cn' K' N' I' R' L' => cn = cn' ∧ K = K' ∧ N = N' ∧ R0 = R' ∧ St T cn K N d wi_X7_takeWhole wr_X7_takeWhole I0 R0 I' R0 ∧ (0 ≤ v.toInt ∧ v.toInt ≤ 1) ∧ ((v.toInt = 1 → (x1.toInt ≤ (I' a0 7).toInt ∧ (I' a0 7).toInt ≤ x2.toInt))) ∧ True)) := by
  refine ConE.of (by decide +kernel) rfl (Nat.le_of_ble_eq_true rfl) rfl (fun X hX hZ hE => ?_)
  subst hX
  have hS0 : St T cn K N d wi_X7_takeWhole wr_X7_takeWhole I0 R0 I0 R0 := St.rf0 hW0
  refine tr_aload_n dX7_takeWhole_0 rfl ?_
  refine tr_iload_n dX7_takeWhole_1 rfl ?_
  refine tr_iload_n dX7_takeWhole_2 rfl ?_
  obtain ⟨v1, c2⟩ : ∃ v, I0 a0 6 = v := ⟨_, rfl⟩
  refine q_callVi hE (M' := mX7_seesWhole) (as := [_, _]) dX7_takeWhole_3 lk7_105 inX7_seesWhole seX7_seesWhole myX7_seesWhole (by decide) ⟨by decide, by decide⟩ rfl (kR7 hS0.1 ta0) (Nat.le_of_ble_eq_true rfl) rfl rfl (by decide) (by decide) (k_X7_seesWhole hS0.1 ta0) ?_
  rintro v7 cn' K' N' I3 R4 L5 ⟨rfl, rfl, rfl, rfl, rfl, g6, h8, p9, -⟩
  have hS10 := hS0.tr g6 (by decide +kernel) (by decide +kernel)
  have c11 : I3 a0 6 = v1 := (g6.cell ta0 (by decide +kernel)).trans c2
  rw [c2] at p9
  refine q_if_ne 11 dX7_takeWhole_6 (by decide) (fun h12 => ?_) (fun h12 => ?_)
  · skip
    refine tr_aload_n dX7_takeWhole_11 rfl ?_
    refine tr_aload_n dX7_takeWhole_12 rfl ?_
    refine q_getI dX7_takeWhole_13 fl7_86 (kR7 hS10.1 ta0) c11 ?_
    refine q_putI dX7_takeWhole_16 fl7_109 (kR7 hS10.1 ta0) (Or.inl rfl) hS10 ta0 (by show (0 : Int) ≤ v1.toInt ∧ v1.toInt ≤ (240 : Int); omega) rfl (by decide +kernel) ?_
    intro I13 hS14 e15 f16
    have c17 : I13 a0 6 = v1 := (f16 _ _ (fun q => absurd q.2 (by decide))).trans c11
    refine tr_aload_n dX7_takeWhole_19 rfl ?_
    refine q_callVv hE (M' := mX7_step) (as := []) dX7_takeWhole_20 lk7_51 inX7_step seX7_step myX7_step (by decide) ⟨by decide, by decide⟩ rfl (kR7 hS14.1 ta0) (Nat.le_of_ble_eq_true rfl) rfl rfl (by decide) (by decide) (k_X7_step hS14.1 ta0) ?_
    rintro cn' K' N' I18 R19 L20 ⟨rfl, rfl, rfl, rfl, g21, -⟩
    have hS23 := hS14.tr g21 (by decide +kernel) (by decide +kernel)
    have c24 : I18 a0 7 = v1 := (g21.cell ta0 (by decide +kernel)).trans e15
    refine q_iconst dX7_takeWhole_23 (by decide) ?_
    intro v25 h26
    exact tr_zret hZ dX7_takeWhole_24 rfl (ti_b01 (by omega) (by omega)) (by decide) (by decide) ⟨v25, rfl, rfl, rfl, rfl, rfl, hS23, (by omega), (by (try rw [c24]); (try omega)), trivial⟩
  · skip
    refine q_iconst dX7_takeWhole_9 (by decide) ?_
    intro v27 h28
    obtain ⟨v29, c30⟩ : ∃ v, I3 a0 7 = v := ⟨_, rfl⟩
    have b31 := iv7_7 hS10.1 ta0 c30
    exact tr_zret hZ dX7_takeWhole_10 rfl (ti_b01 (by omega) (by omega)) (by decide) (by decide) ⟨v27, rfl, rfl, rfl, rfl, rfl, hS10, (by omega), (by (try rw [c30]); (try omega)), trivial⟩
def wi_X7_takeComma : List Nat := [450, 451, 452, 454, 463, 464]
def wr_X7_takeComma : List Nat := []
set_option maxHeartbeats 4000000 in
theorem k_X7_takeComma {l : Launch} {T : Nat → Nat} {cn : Nat} {K N : Nat → Nat} {I0 : cz_I} {R0 : cz_R} {L0 : cz_L} {d : Int} (hW0 : Wf T cn K N I0 R0 d) {a0 : Nat} (ta0 : T a0 = 7) : ConE l mX7_takeComma [.ref a0] cn K N I0 R0 L0 (ca_i (fun v cn' K' N' I' R' L' => cn = cn' ∧ K = K' ∧ N = N' ∧ R0 = R' ∧ St T cn K N d wi_X7_takeComma wr_X7_takeComma I0 R0 I' R0 ∧ (0 ≤ v.toInt ∧ v.toInt ≤ 1) ∧ True)) := by
  refine ConE.of (by decide +kernel) rfl (Nat.le_of_ble_eq_true rfl) rfl (fun X hX hZ hE => ?_)
  subst hX
  have hS0 : St T cn K N d wi_X7_takeComma wr_X7_takeComma I0 R0 I0 R0 := St.rf0 hW0
  refine tr_aload_n dX7_takeComma_0 rfl ?_
  obtain ⟨v1, c2⟩ : ∃ v, I0 a0 3 = v := ⟨_, rfl⟩
  have b3 := iv7_3 hS0.1 ta0 c2
  refine q_getI dX7_takeComma_1 fl7_58 (kR7 hS0.1 ta0) c2 ?_
  refine q_iconst dX7_takeComma_4 (by decide) ?_
  intro v4 h5
  refine q_icmp_eq 14 dX7_takeComma_5 (by decide) (fun h6 => ?_) (fun h6 => ?_)
  · skip
    refine tr_aload_n dX7_takeComma_14 rfl ?_
    refine q_callVv hE (M' := mX7_step) (as := []) dX7_takeComma_15 lk7_51 inX7_step seX7_step myX7_step (by decide) ⟨by decide, by decide⟩ rfl (kR7 hS0.1 ta0) (Nat.le_of_ble_eq_true rfl) rfl rfl (by decide) (by decide) (k_X7_step hS0.1 ta0) ?_
    rintro cn' K' N' I7 R8 L9 ⟨rfl, rfl, rfl, rfl, g10, -⟩
    have hS12 := hS0.tr g10 (by decide +kernel) (by decide +kernel)
    refine q_iconst dX7_takeComma_18 (by decide) ?_
    intro v13 h14
    exact tr_zret hZ dX7_takeComma_19 rfl (ti_b01 (by omega) (by omega)) (by decide) (by decide) ⟨v13, rfl, rfl, rfl, rfl, rfl, hS12, (by omega), trivial⟩
  · skip
    refine tr_aload_n dX7_takeComma_8 rfl ?_
    refine q_iconst dX7_takeComma_9 (by decide) ?_
    intro v15 h16
    refine q_callVi hE (M' := mX7_fail) (as := [_]) dX7_takeComma_10 lk7_64 inX7_fail seX7_fail myX7_fail (by decide) ⟨by decide, by decide⟩ rfl (kR7 hS0.1 ta0) (Nat.le_of_ble_eq_true rfl) rfl rfl (by decide) (by decide) (k_X7_fail hS0.1 ta0) ?_
    rintro v21 cn' K' N' I17 R18 L19 ⟨rfl, rfl, rfl, rfl, rfl, g20, h22, -⟩
    have hS23 := hS0.tr g20 (by decide +kernel) (by decide +kernel)
    have c24 : I17 a0 3 = v1 := (g20.cell ta0 (by decide +kernel)).trans c2
    exact tr_zret hZ dX7_takeComma_13 rfl (ti_b01 (by omega) (by omega)) (by decide) (by decide) ⟨v21, rfl, rfl, rfl, rfl, rfl, hS23, (by omega), trivial⟩
def wi_X7_readAlp : List Nat := [128, 129, 450, 451, 452, 454, 455, 459, 463, 464, 1215]
def wr_X7_readAlp : List Nat := []
set_option maxHeartbeats 4000000 in
theorem k_X7_readAlp {l : Launch} {T : Nat → Nat} {cn : Nat} {K N : Nat → Nat} {I0 : cz_I} {R0 : cz_R} {L0 : cz_L} {d : Int} (hW0 : Wf T cn K N I0 R0 d) {a0 : Nat} (ta0 : T a0 = 7) : ConE l mX7_readAlp [.ref a0] cn K N I0 R0 L0 (ca_i (fun v cn' K' N' I' R' L' => cn = cn' ∧ K = K' ∧ N = N' ∧ R0 = R' ∧ St T cn K N d wi_X7_readAlp wr_X7_readAlp I0 R0 I' R0 ∧ (0 ≤ v.toInt ∧ v.toInt ≤ 1) ∧ True)) := by
  refine ConE.of (by decide +kernel) rfl (Nat.le_of_ble_eq_true rfl) rfl (fun X hX hZ hE => ?_)
  subst hX
  have hS0 : St T cn K N d wi_X7_readAlp wr_X7_readAlp I0 R0 I0 R0 := St.rf0 hW0
  refine tr_aload_n dX7_readAlp_0 rfl ?_
  refine q_iconst dX7_readAlp_1 (by decide) ?_
  intro v1 h2
  refine q_putZ dX7_readAlp_2 fl7_31 (kR7 hS0.1 ta0) (Or.inl rfl) hS0 ta0 (by omega) (by show (0 : Int) ≤ v1.toInt ∧ v1.toInt ≤ (1 : Int); omega) rfl (by decide +kernel) ?_
  intro I3 hS4 e5 f6
  refine tr_aload_n dX7_readAlp_5 rfl ?_
  refine tr_ldcS dX7_readAlp_6 ld7_203 ?_
  refine q_callVi hE (M' := mX7_takeWord) (as := [_]) dX7_readAlp_8 lk7_126 inX7_takeWord seX7_takeWord myX7_takeWord (by decide) ⟨by decide, by decide⟩ rfl (kR7 hS4.1 ta0) (Nat.le_of_ble_eq_true rfl) rfl rfl (by decide) (by decide) (k_X7_takeWord hS4.1 ta0 (by decide)) ?_
  rintro v11 cn' K' N' I7 R8 L9 ⟨rfl, rfl, rfl, rfl, g10, h12, -⟩
  have hS13 := hS4.tr g10 (by decide +kernel) (by decide +kernel)
  have c14 : I7 a0 11 = v1 := (g10.cell ta0 (by decide +kernel)).trans e5
  refine q_if_eq 26 dX7_readAlp_11 (by decide) (fun h15 => ?_) (fun h15 => ?_)
  · skip
    refine q_iconst dX7_readAlp_26 (by decide) ?_
    intro v16 h17
    exact tr_zret hZ dX7_readAlp_27 rfl (ti_b01 (by omega) (by omega)) (by decide) (by decide) ⟨v16, rfl, rfl, rfl, rfl, rfl, hS13, (by omega), trivial⟩
  · skip
    refine tr_aload_n dX7_readAlp_14 rfl ?_
    refine q_bipush dX7_readAlp_15 (by decide +kernel) ?_
    intro v18 h19
    refine q_sipush dX7_readAlp_17 (by decide +kernel) ?_
    intro v20 h21
    refine q_callVi hE (M' := mX7_takeWhole) (as := [_, _]) dX7_readAlp_20 lk7_115 inX7_takeWhole seX7_takeWhole myX7_takeWhole (by decide) ⟨by decide, by decide⟩ rfl (kR7 hS13.1 ta0) (Nat.le_of_ble_eq_true rfl) rfl rfl (by decide) (by decide) (k_X7_takeWhole hS13.1 ta0 (by omega) (by omega)) ?_
    rintro v26 cn' K' N' I22 R23 L24 ⟨rfl, rfl, rfl, rfl, g25, h27, p28, -⟩
    have hS29 := hS13.tr g25 (by decide +kernel) (by decide +kernel)
    have c30 : I22 a0 11 = v1 := (g25.cell ta0 (by decide +kernel)).trans c14
    obtain ⟨v31, c32⟩ : ∃ v, I22 a0 7 = v := ⟨_, rfl⟩
    have b33 := iv7_7 hS29.1 ta0 c32
    rw [c32] at p28
    refine q_if_ne 28 dX7_readAlp_23 (by decide) (fun h34 => ?_) (fun h34 => ?_)
    · skip
      refine tr_aload_n dX7_readAlp_28 rfl ?_
      obtain ⟨a35, d36, ta35⟩ := rf7_10 hW0 ta0
      refine tr_getR dX7_readAlp_29 fl7_22 (kR7 hS29.1 ta0) d36 ?_
      refine tr_aload_n dX7_readAlp_32 rfl ?_
      refine q_getI dX7_readAlp_33 fl7_109 (kR7 hS29.1 ta0) c32 ?_
      refine q_putI dX7_readAlp_36 fl7_118 (kR2 hS29.1 ta35) (Or.inl rfl) hS29 ta35 (by show (0 : Int) ≤ v31.toInt ∧ v31.toInt ≤ (240 : Int); omega) rfl (by decide +kernel) ?_
      intro I37 hS38 e39 f40
      have c41 : I37 a0 11 = v1 := (f40 _ _ (fun q => absurd q.2 (by decide))).trans c30
      have c42 : I37 a0 7 = v31 := (f40 _ _ (fun q => absurd q.2 (by decide))).trans c32
      refine tr_aload_n dX7_readAlp_39 rfl ?_
      refine tr_ldcS dX7_readAlp_40 ld7_204 ?_
      refine q_callVi hE (M' := mX7_takeWord) (as := [_]) dX7_readAlp_42 lk7_126 inX7_takeWord seX7_takeWord myX7_takeWord (by decide) ⟨by decide, by decide⟩ rfl (kR7 hS38.1 ta0) (Nat.le_of_ble_eq_true rfl) rfl rfl (by decide) (by decide) (k_X7_takeWord hS38.1 ta0 (by decide)) ?_
      rintro v47 cn' K' N' I43 R44 L45 ⟨rfl, rfl, rfl, rfl, g46, h48, -⟩
      have hS49 := hS38.tr g46 (by decide +kernel) (by decide +kernel)
      have c50 : I43 a0 11 = v1 := (g46.cell ta0 (by decide +kernel)).trans c41
      have c51 : I43 a0 7 = v31 := (g46.cell ta0 (by decide +kernel)).trans c42
      have c52 : I43 a35 0 = v31 := (g46.cell ta35 (by decide +kernel)).trans e39
      refine q_if_eq 57 dX7_readAlp_45 (by decide) (fun h53 => ?_) (fun h53 => ?_)
      · skip
        refine q_iconst dX7_readAlp_57 (by decide) ?_
        intro v54 h55
        exact tr_zret hZ dX7_readAlp_58 rfl (ti_b01 (by omega) (by omega)) (by decide) (by decide) ⟨v54, rfl, rfl, rfl, rfl, rfl, hS49, (by omega), trivial⟩
      · skip
        refine tr_aload_n dX7_readAlp_48 rfl ?_
        refine q_iconst dX7_readAlp_49 (by decide) ?_
        intro v56 h57
        refine q_iconst dX7_readAlp_50 (by decide) ?_
        intro v58 h59
        refine q_callVi hE (M' := mX7_takeWhole) (as := [_, _]) dX7_readAlp_51 lk7_115 inX7_takeWhole seX7_takeWhole myX7_takeWhole (by decide) ⟨by decide, by decide⟩ rfl (kR7 hS49.1 ta0) (Nat.le_of_ble_eq_true rfl) rfl rfl (by decide) (by decide) (k_X7_takeWhole hS49.1 ta0 (by omega) (by omega)) ?_
        rintro v64 cn' K' N' I60 R61 L62 ⟨rfl, rfl, rfl, rfl, g63, h65, p66, -⟩
        have hS67 := hS49.tr g63 (by decide +kernel) (by decide +kernel)
        have c68 : I60 a0 11 = v1 := (g63.cell ta0 (by decide +kernel)).trans c50
        have c69 : I60 a35 0 = v31 := (g63.cell ta35 (by decide +kernel)).trans c52
        obtain ⟨v70, c71⟩ : ∃ v, I60 a0 7 = v := ⟨_, rfl⟩
        have b72 := iv7_7 hS67.1 ta0 c71
        rw [c71] at p66
        refine q_if_ne 59 dX7_readAlp_54 (by decide) (fun h73 => ?_) (fun h73 => ?_)
        · skip
          refine tr_aload_n dX7_readAlp_59 rfl ?_
          refine tr_getR dX7_readAlp_60 fl7_22 (kR7 hS67.1 ta0) d36 ?_
          refine tr_aload_n dX7_readAlp_63 rfl ?_
          refine q_getI dX7_readAlp_64 fl7_109 (kR7 hS67.1 ta0) c71 ?_
          refine q_putI dX7_readAlp_67 fl7_112 (kR2 hS67.1 ta35) (Or.inl rfl) hS67 ta35 (by show (0 : Int) ≤ v70.toInt ∧ v70.toInt ≤ (4 : Int); omega) rfl (by decide +kernel) ?_
          intro I74 hS75 e76 f77
          have c78 : I74 a0 11 = v1 := (f77 _ _ (fun q => absurd q.2 (by decide))).trans c68
          have c79 : I74 a35 0 = v31 := (f77 _ _ (fun q => absurd q.2 (by decide))).trans c69
          have c80 : I74 a0 7 = v70 := (f77 _ _ (fun q => absurd q.2 (by decide))).trans c71
          refine tr_aload_n dX7_readAlp_70 rfl ?_
          refine tr_ldcS dX7_readAlp_71 ld7_205 ?_
          refine q_callVi hE (M' := mX7_takeWord) (as := [_]) dX7_readAlp_73 lk7_126 inX7_takeWord seX7_takeWord myX7_takeWord (by decide) ⟨by decide, by decide⟩ rfl (kR7 hS75.1 ta0) (Nat.le_of_ble_eq_true rfl) rfl rfl (by decide) (by decide) (k_X7_takeWord hS75.1 ta0 (by decide)) ?_
          rintro v85 cn' K' N' I81 R82 L83 ⟨rfl, rfl, rfl, rfl, g84, h86, -⟩
          have hS87 := hS75.tr g84 (by decide +kernel) (by decide +kernel)
          have c88 : I81 a0 11 = v1 := (g84.cell ta0 (by decide +kernel)).trans c78
          have c89 : I81 a35 0 = v31 := (g84.cell ta35 (by decide +kernel)).trans c79
          have c90 : I81 a0 7 = v70 := (g84.cell ta0 (by decide +kernel)).trans c80
          have c91 : I81 a35 1 = v70 := (g84.cell ta35 (by decide +kernel)).trans e76
          refine q_if_ne 81 dX7_readAlp_76 (by decide) (fun h92 => ?_) (fun h92 => ?_)
          · skip
            refine q_iconst dX7_readAlp_81 (by decide) ?_
            intro v93 h94
            refine tr_istore_n dX7_readAlp_82 (by decide) (by decide) ?_
            have lp102 : ∀ (fu : Nat) (ls : Nat → Option Value) (v95 : Int32) (I98 : cz_I) (L99 : cz_L), ls 0 = some (.ref a0) → ls 1 = some (.int v95) → St T cn K N d wi_X7_readAlp wr_X7_readAlp I0 R0 I98 R0 → 0 ≤ v95.toInt → (-v95.toInt + 2147483647).toNat < fu → Tr X mX7_readAlp 83 ls [] cn K N I98 R0 L99 0 0 := by
              intro fu
              induction fu with
              | zero => intros; rename_i hz; exact absurd hz (Nat.not_lt_zero _)
              | succ fu ih102 =>
                intro ls v95 I98 L99 hl96 hl97 hS100 g101 hm102
                refine tr_iload_n dX7_readAlp_83 hl97 ?_
                refine tr_aload_n dX7_readAlp_84 hl96 ?_
                refine tr_getR dX7_readAlp_85 fl7_22 (kR7 hS100.1 ta0) d36 ?_
                obtain ⟨a104, d105, ta104⟩ := rf2_2 hW0 ta35
                refine tr_getR dX7_readAlp_88 fl7_207 (kR2 hS100.1 ta35) d105 ?_
                refine q_alen dX7_readAlp_91 (kR18 hS100.1 ta104) (by decide) (by decide) (nR18 hS100.1 ta104) (by decide +kernel) ?_
                intro v106 h107
                refine q_icmp_ge 137 dX7_readAlp_92 (by decide) (fun h108 => ?_) (fun h108 => ?_)
                · skip
                  refine q_iconst dX7_readAlp_137 (by decide) ?_
                  intro v109 h110
                  exact tr_zret hZ dX7_readAlp_138 rfl (ti_b01 (by omega) (by omega)) (by decide) (by decide) ⟨v109, rfl, rfl, rfl, rfl, rfl, hS100, (by omega), trivial⟩
                · skip
                  refine tr_iload_n dX7_readAlp_95 hl97 ?_
                  refine q_if_le 106 dX7_readAlp_96 (by decide) (fun h111 => ?_) (fun h111 => ?_)
                  · skip
                    refine tr_aload_n dX7_readAlp_106 hl96 ?_
                    refine q_iconst dX7_readAlp_107 (by decide) ?_
                    intro v112 h113
                    refine q_bipush dX7_readAlp_108 (by decide +kernel) ?_
                    intro v114 h115
                    refine q_callVi hE (M' := mX7_takeWhole) (as := [_, _]) dX7_readAlp_110 lk7_115 inX7_takeWhole seX7_takeWhole myX7_takeWhole (by decide) ⟨by decide, by decide⟩ rfl (kR7 hS100.1 ta0) (Nat.le_of_ble_eq_true rfl) rfl rfl (by decide) (by decide) (k_X7_takeWhole hS100.1 ta0 (by omega) (by omega)) ?_
                    rintro v120 cn' K' N' I116 R117 L118 ⟨rfl, rfl, rfl, rfl, g119, h121, p122, -⟩
                    have hS123 := hS100.tr g119 (by decide +kernel) (by decide +kernel)
                    obtain ⟨v124, c125⟩ : ∃ v, I116 a0 7 = v := ⟨_, rfl⟩
                    have b126 := iv7_7 hS123.1 ta0 c125
                    rw [c125] at p122
                    refine q_if_ne 118 dX7_readAlp_113 (by decide) (fun h127 => ?_) (fun h127 => ?_)
                    · skip
                      refine tr_aload_n dX7_readAlp_118 hl96 ?_
                      refine tr_getR dX7_readAlp_119 fl7_22 (kR7 hS123.1 ta0) d36 ?_
                      refine tr_getR dX7_readAlp_122 fl7_207 (kR2 hS123.1 ta35) d105 ?_
                      refine tr_iload_n dX7_readAlp_125 hl97 ?_
                      refine tr_aload_n dX7_readAlp_126 hl96 ?_
                      refine q_getI dX7_readAlp_127 fl7_109 (kR7 hS123.1 ta0) c125 ?_
                      refine q_iast dX7_readAlp_130 (kR18 hS123.1 ta104) (ti_in (nR18 hS123.1 ta104) (by omega) (by omega)) hS123 ta104 (iokF rfl) rfl (by rfl) ?_
                      intro I128 hS129 e131 f130
                      have c132 : I128 a0 7 = v124 := (f130 _ _ (fun q => by have z := ta0; rw [q.1, ta104] at z; exact absurd z (by decide))).trans c125
                      refine q_iincE dX7_readAlp_131 hl97 (by decide) (by decide) (by intros; omega) ?_
                      intro v133 h134
                      refine tr_goto 83 dX7_readAlp_134 (by decide) ?_
                      exact ih102 _ v133 I128 L118 hl96 rfl hS129 (by omega) (by omega)
                    · skip
                      refine q_iconst dX7_readAlp_116 (by decide) ?_
                      intro v135 h136
                      exact tr_zret hZ dX7_readAlp_117 rfl (ti_b01 (by omega) (by omega)) (by decide) (by decide) ⟨v135, rfl, rfl, rfl, rfl, rfl, hS123, (by omega), trivial⟩
                  · skip
                    refine tr_aload_n dX7_readAlp_99 hl96 ?_
                    refine q_callVi hE (M' := mX7_takeComma) (as := []) dX7_readAlp_100 lk7_210 inX7_takeComma seX7_takeComma myX7_takeComma (by decide) ⟨by decide, by decide⟩ rfl (kR7 hS100.1 ta0) (Nat.le_of_ble_eq_true rfl) rfl rfl (by decide) (by decide) (k_X7_takeComma hS100.1 ta0) ?_
                    rintro v141 cn' K' N' I137 R138 L139 ⟨rfl, rfl, rfl, rfl, g140, h142, -⟩
                    have hS143 := hS100.tr g140 (by decide +kernel) (by decide +kernel)
                    refine q_if_eq 116 dX7_readAlp_103 (by decide) (fun h144 => ?_) (fun h144 => ?_)
                    · skip
                      refine q_iconst dX7_readAlp_116 (by decide) ?_
                      intro v145 h146
                      exact tr_zret hZ dX7_readAlp_117 rfl (ti_b01 (by omega) (by omega)) (by decide) (by decide) ⟨v145, rfl, rfl, rfl, rfl, rfl, hS143, (by omega), trivial⟩
                    · skip
                      refine tr_aload_n dX7_readAlp_106 hl96 ?_
                      refine q_iconst dX7_readAlp_107 (by decide) ?_
                      intro v147 h148
                      refine q_bipush dX7_readAlp_108 (by decide +kernel) ?_
                      intro v149 h150
                      refine q_callVi hE (M' := mX7_takeWhole) (as := [_, _]) dX7_readAlp_110 lk7_115 inX7_takeWhole seX7_takeWhole myX7_takeWhole (by decide) ⟨by decide, by decide⟩ rfl (kR7 hS143.1 ta0) (Nat.le_of_ble_eq_true rfl) rfl rfl (by decide) (by decide) (k_X7_takeWhole hS143.1 ta0 (by omega) (by omega)) ?_
                      rintro v155 cn' K' N' I151 R152 L153 ⟨rfl, rfl, rfl, rfl, g154, h156, p157, -⟩
                      have hS158 := hS143.tr g154 (by decide +kernel) (by decide +kernel)
                      obtain ⟨v159, c160⟩ : ∃ v, I151 a0 7 = v := ⟨_, rfl⟩
                      have b161 := iv7_7 hS158.1 ta0 c160
                      rw [c160] at p157
                      refine q_if_ne 118 dX7_readAlp_113 (by decide) (fun h162 => ?_) (fun h162 => ?_)
                      · skip
                        refine tr_aload_n dX7_readAlp_118 hl96 ?_
                        refine tr_getR dX7_readAlp_119 fl7_22 (kR7 hS158.1 ta0) d36 ?_
                        refine tr_getR dX7_readAlp_122 fl7_207 (kR2 hS158.1 ta35) d105 ?_
                        refine tr_iload_n dX7_readAlp_125 hl97 ?_
                        refine tr_aload_n dX7_readAlp_126 hl96 ?_
                        refine q_getI dX7_readAlp_127 fl7_109 (kR7 hS158.1 ta0) c160 ?_
                        refine q_iast dX7_readAlp_130 (kR18 hS158.1 ta104) (ti_in (nR18 hS158.1 ta104) (by omega) (by omega)) hS158 ta104 (iokF rfl) rfl (by rfl) ?_
                        intro I163 hS164 e166 f165
                        have c167 : I163 a0 7 = v159 := (f165 _ _ (fun q => by have z := ta0; rw [q.1, ta104] at z; exact absurd z (by decide))).trans c160
                        refine q_iincE dX7_readAlp_131 hl97 (by decide) (by decide) (by intros; omega) ?_
                        intro v168 h169
                        refine tr_goto 83 dX7_readAlp_134 (by decide) ?_
                        exact ih102 _ v168 I163 L153 hl96 rfl hS164 (by omega) (by omega)
                      · skip
                        refine q_iconst dX7_readAlp_116 (by decide) ?_
                        intro v170 h171
                        exact tr_zret hZ dX7_readAlp_117 rfl (ti_b01 (by omega) (by omega)) (by decide) (by decide) ⟨v170, rfl, rfl, rfl, rfl, rfl, hS158, (by omega), trivial⟩
            exact lp102 _ _ v93 I81 L83 rfl rfl hS87 (by omega) (Nat.lt_succ_self _)
          · skip
            refine q_iconst dX7_readAlp_79 (by decide) ?_
            intro v172 h173
            exact tr_zret hZ dX7_readAlp_80 rfl (ti_b01 (by omega) (by omega)) (by decide) (by decide) ⟨v172, rfl, rfl, rfl, rfl, rfl, hS87, (by omega), trivial⟩
        · skip
          refine q_iconst dX7_readAlp_57 (by decide) ?_
          intro v174 h175
          exact tr_zret hZ dX7_readAlp_58 rfl (ti_b01 (by omega) (by omega)) (by decide) (by decide) ⟨v174, rfl, rfl, rfl, rfl, rfl, hS67, (by omega), trivial⟩
    · skip
      refine q_iconst dX7_readAlp_26 (by decide) ?_
      intro v176 h177
      exact tr_zret hZ dX7_readAlp_27 rfl (ti_b01 (by omega) (by omega)) (by decide) (by decide) ⟨v176, rfl, rfl, rfl, rfl, rfl, hS29, (by omega), trivial⟩
def wi_X7_takeHut : List Nat := [450, 451, 452, 454, 455, 463, 464]
def wr_X7_takeHut : List Nat := []
set_option maxHeartbeats 4000000 in
theorem k_X7_takeHut {l : Launch} {T : Nat → Nat} {cn : Nat} {K N : Nat → Nat} {I0 : cz_I} {R0 : cz_R} {L0 : cz_L} {d : Int} (hW0 : Wf T cn K N I0 R0 d) {a0 : Nat} (ta0 : T a0 = 7) : ConE l mX7_takeHut [.ref a0] cn K N I0 R0 L0 (ca_i (fun v cn' K' N' I' R' L' => cn = cn' ∧ K = K' ∧ N = N' ∧ R0 = R' ∧ St T cn K N d wi_X7_takeHut wr_X7_takeHut I0 R0 I' R0 ∧ (0 ≤ v.toInt ∧ v.toInt ≤ 1) ∧ True)) := by
  refine ConE.of (by decide +kernel) rfl (Nat.le_of_ble_eq_true rfl) rfl (fun X hX hZ hE => ?_)
  subst hX
  have hS0 : St T cn K N d wi_X7_takeHut wr_X7_takeHut I0 R0 I0 R0 := St.rf0 hW0
  refine tr_aload_n dX7_takeHut_0 rfl ?_
  refine q_iconst dX7_takeHut_1 (by decide) ?_
  intro v1 h2
  refine tr_aload_n dX7_takeHut_2 rfl ?_
  obtain ⟨a3, d4, ta3⟩ := rf7_10 hW0 ta0
  refine tr_getR dX7_takeHut_3 fl7_22 (kR7 hS0.1 ta0) d4 ?_
  obtain ⟨v5, c6⟩ : ∃ v, I0 a3 1 = v := ⟨_, rfl⟩
  have b7 := iv2_1 hW0 ta3 c6
  refine q_getI dX7_takeHut_6 fl7_112 (kR2 hS0.1 ta3) c6 ?_
  refine q_iconst dX7_takeHut_9 (by decide) ?_
  intro v8 h9
  refine q_isubE dX7_takeHut_10 (by intros; omega) ?_
  intro v10 h11
  refine q_callVi hE (M' := mX7_takeWhole) (as := [_, _]) dX7_takeHut_11 lk7_115 inX7_takeWhole seX7_takeWhole myX7_takeWhole (by decide) ⟨by decide, by decide⟩ rfl (kR7 hS0.1 ta0) (Nat.le_of_ble_eq_true rfl) rfl rfl (by decide) (by decide) (k_X7_takeWhole hS0.1 ta0 (by omega) (by omega)) ?_
  rintro v16 cn' K' N' I12 R13 L14 ⟨rfl, rfl, rfl, rfl, g15, h17, p18, -⟩
  have hS19 := hS0.tr g15 (by decide +kernel) (by decide +kernel)
  obtain ⟨v20, c21⟩ : ∃ v, I12 a0 7 = v := ⟨_, rfl⟩
  have b22 := iv7_7 hS19.1 ta0 c21
  rw [c21] at p18
  exact tr_zret hZ dX7_takeHut_14 rfl (ti_b01 (by omega) (by omega)) (by decide) (by decide) ⟨v16, rfl, rfl, rfl, rfl, rfl, hS19, (by omega), trivial⟩
def wi_X7_takeSpan : List Nat := [450, 451, 452, 454, 455, 456, 457, 463, 464]
def wr_X7_takeSpan : List Nat := []
set_option maxHeartbeats 4000000 in
theorem k_X7_takeSpan {l : Launch} {T : Nat → Nat} {cn : Nat} {K N : Nat → Nat} {I0 : cz_I} {R0 : cz_R} {L0 : cz_L} {d : Int} (hW0 : Wf T cn K N I0 R0 d) {a0 : Nat} (ta0 : T a0 = 7) : ConE l mX7_takeSpan [.ref a0] cn K N I0 R0 L0 (ca_i (fun v cn' K' N' I' R' L' => cn = cn' ∧ K = K' ∧ N = N' ∧ R0 = R' ∧ St T cn K N d wi_X7_takeSpan wr_X7_takeSpan I0 R0 I' R0 ∧ (0 ≤ v.toInt ∧ v.toInt ≤ 1) ∧ True)) := by
  refine ConE.of (by decide +kernel) rfl (Nat.le_of_ble_eq_true rfl) rfl (fun X hX hZ hE => ?_)
  subst hX
  have hS0 : St T cn K N d wi_X7_takeSpan wr_X7_takeSpan I0 R0 I0 R0 := St.rf0 hW0
  refine tr_aload_n dX7_takeSpan_0 rfl ?_
  refine q_iconst dX7_takeSpan_1 (by decide) ?_
  intro v1 h2
  refine tr_aload_n dX7_takeSpan_2 rfl ?_
  obtain ⟨a3, d4, ta3⟩ := rf7_10 hW0 ta0
  refine tr_getR dX7_takeSpan_3 fl7_22 (kR7 hS0.1 ta0) d4 ?_
  obtain ⟨v5, c6⟩ : ∃ v, I0 a3 0 = v := ⟨_, rfl⟩
  have b7 := iv2_0 hW0 ta3 c6
  refine q_getI dX7_takeSpan_6 fl7_118 (kR2 hS0.1 ta3) c6 ?_
  refine q_iconst dX7_takeSpan_9 (by decide) ?_
  intro v8 h9
  refine q_isubE dX7_takeSpan_10 (by intros; omega) ?_
  intro v10 h11
  refine q_callVi hE (M' := mX7_takeWhole) (as := [_, _]) dX7_takeSpan_11 lk7_115 inX7_takeWhole seX7_takeWhole myX7_takeWhole (by decide) ⟨by decide, by decide⟩ rfl (kR7 hS0.1 ta0) (Nat.le_of_ble_eq_true rfl) rfl rfl (by decide) (by decide) (k_X7_takeWhole hS0.1 ta0 (by omega) (by omega)) ?_
  rintro v16 cn' K' N' I12 R13 L14 ⟨rfl, rfl, rfl, rfl, g15, h17, p18, -⟩
  have hS19 := hS0.tr g15 (by decide +kernel) (by decide +kernel)
  obtain ⟨v20, c21⟩ : ∃ v, I12 a0 7 = v := ⟨_, rfl⟩
  have b22 := iv7_7 hS19.1 ta0 c21
  rw [c21] at p18
  refine q_if_ne 19 dX7_takeSpan_14 (by decide) (fun h23 => ?_) (fun h23 => ?_)
  · skip
    refine tr_aload_n dX7_takeSpan_19 rfl ?_
    refine tr_aload_n dX7_takeSpan_20 rfl ?_
    refine q_getI dX7_takeSpan_21 fl7_109 (kR7 hS19.1 ta0) c21 ?_
    refine q_putI dX7_takeSpan_24 fl7_121 (kR7 hS19.1 ta0) (Or.inl rfl) hS19 ta0 (by show (0 : Int) ≤ v20.toInt ∧ v20.toInt ≤ (240 : Int); omega) rfl (by decide +kernel) ?_
    intro I24 hS25 e26 f27
    have c28 : I24 a0 7 = v20 := (f27 _ _ (fun q => absurd q.2 (by decide))).trans c21
    refine tr_aload_n dX7_takeSpan_27 rfl ?_
    refine tr_ldcS dX7_takeSpan_28 ld7_124 ?_
    refine q_callVi hE (M' := mX7_takeWord) (as := [_]) dX7_takeSpan_30 lk7_126 inX7_takeWord seX7_takeWord myX7_takeWord (by decide) ⟨by decide, by decide⟩ rfl (kR7 hS25.1 ta0) (Nat.le_of_ble_eq_true rfl) rfl rfl (by decide) (by decide) (k_X7_takeWord hS25.1 ta0 (by decide)) ?_
    rintro v33 cn' K' N' I29 R30 L31 ⟨rfl, rfl, rfl, rfl, g32, h34, -⟩
    have hS35 := hS25.tr g32 (by decide +kernel) (by decide +kernel)
    have c36 : I29 a0 7 = v20 := (g32.cell ta0 (by decide +kernel)).trans c28
    have c37 : I29 a0 8 = v20 := (g32.cell ta0 (by decide +kernel)).trans e26
    refine q_if_eq 56 dX7_takeSpan_33 (by decide) (fun h38 => ?_) (fun h38 => ?_)
    · skip
      refine q_iconst dX7_takeSpan_56 (by decide) ?_
      intro v39 h40
      exact tr_zret hZ dX7_takeSpan_57 rfl (ti_b01 (by omega) (by omega)) (by decide) (by decide) ⟨v39, rfl, rfl, rfl, rfl, rfl, hS35, (by omega), trivial⟩
    · skip
      refine tr_aload_n dX7_takeSpan_36 rfl ?_
      refine tr_aload_n dX7_takeSpan_37 rfl ?_
      refine q_getI dX7_takeSpan_38 fl7_121 (kR7 hS35.1 ta0) c37 ?_
      refine q_iconst dX7_takeSpan_41 (by decide) ?_
      intro v41 h42
      refine q_iaddE dX7_takeSpan_42 (by intros; omega) ?_
      intro v43 h44
      refine tr_aload_n dX7_takeSpan_43 rfl ?_
      refine tr_getR dX7_takeSpan_44 fl7_22 (kR7 hS35.1 ta0) d4 ?_
      refine q_getI dX7_takeSpan_47 fl7_118 (kR2 hS35.1 ta3) ((hS35.cell ta3 (by decide +kernel)).trans c6) ?_
      refine q_callVi hE (M' := mX7_takeWhole) (as := [_, _]) dX7_takeSpan_50 lk7_115 inX7_takeWhole seX7_takeWhole myX7_takeWhole (by decide) ⟨by decide, by decide⟩ rfl (kR7 hS35.1 ta0) (Nat.le_of_ble_eq_true rfl) rfl rfl (by decide) (by decide) (k_X7_takeWhole hS35.1 ta0 (by omega) (by omega)) ?_
      rintro v49 cn' K' N' I45 R46 L47 ⟨rfl, rfl, rfl, rfl, g48, h50, p51, -⟩
      have hS52 := hS35.tr g48 (by decide +kernel) (by decide +kernel)
      have c53 : I45 a0 8 = v20 := (g48.cell ta0 (by decide +kernel)).trans c37
      obtain ⟨v54, c55⟩ : ∃ v, I45 a0 7 = v := ⟨_, rfl⟩
      have b56 := iv7_7 hS52.1 ta0 c55
      rw [c55] at p51
      refine q_if_ne 58 dX7_takeSpan_53 (by decide) (fun h57 => ?_) (fun h57 => ?_)
      · skip
        refine tr_aload_n dX7_takeSpan_58 rfl ?_
        refine tr_aload_n dX7_takeSpan_59 rfl ?_
        refine q_getI dX7_takeSpan_60 fl7_109 (kR7 hS52.1 ta0) c55 ?_
        refine q_putI dX7_takeSpan_63 fl7_129 (kR7 hS52.1 ta0) (Or.inl rfl) hS52 ta0 (by show (0 : Int) ≤ v54.toInt ∧ v54.toInt ≤ (240 : Int); omega) rfl (by decide +kernel) ?_
        intro I58 hS59 e60 f61
        have c62 : I58 a0 8 = v20 := (f61 _ _ (fun q => absurd q.2 (by decide))).trans c53
        have c63 : I58 a0 7 = v54 := (f61 _ _ (fun q => absurd q.2 (by decide))).trans c55
        refine q_iconst dX7_takeSpan_66 (by decide) ?_
        intro v64 h65
        exact tr_zret hZ dX7_takeSpan_67 rfl (ti_b01 (by omega) (by omega)) (by decide) (by decide) ⟨v64, rfl, rfl, rfl, rfl, rfl, hS59, (by omega), trivial⟩
      · skip
        refine q_iconst dX7_takeSpan_56 (by decide) ?_
        intro v66 h67
        exact tr_zret hZ dX7_takeSpan_57 rfl (ti_b01 (by omega) (by omega)) (by decide) (by decide) ⟨v66, rfl, rfl, rfl, rfl, rfl, hS52, (by omega), trivial⟩
  · skip
    refine q_iconst dX7_takeSpan_17 (by decide) ?_
    intro v68 h69
    exact tr_zret hZ dX7_takeSpan_18 rfl (ti_b01 (by omega) (by omega)) (by decide) (by decide) ⟨v68, rfl, rfl, rfl, rfl, rfl, hS19, (by omega), trivial⟩
def wi_X7_readEvent : List Nat := [131, 192, 193, 194, 195, 450, 451, 452, 454, 455, 456, 457, 463, 464]
def wr_X7_readEvent : List Nat := []
set_option maxHeartbeats 4000000 in
theorem k_X7_readEvent {l : Launch} {T : Nat → Nat} {cn : Nat} {K N : Nat → Nat} {I0 : cz_I} {R0 : cz_R} {L0 : cz_L} {d : Int} (hW0 : Wf T cn K N I0 R0 d) {a0 : Nat} (ta0 : T a0 = 7) {x1 : Int32} (pre0 : ∀ b1, R0 a0 10 = some b1 → (I0 b1 3).toInt ≤ 13) : ConE l mX7_readEvent [.ref a0, .int x1] cn K N I0 R0 L0 (ca_i (fun v cn' K' N' I' R' L' => cn = cn' ∧ K = K' ∧ N = N' ∧ R0 = R' ∧ St T cn K N d wi_X7_readEvent wr_X7_readEvent I0 R0 I' R0 ∧ (0 ≤ v.toInt ∧ v.toInt ≤ 1) ∧ True)) := by
  refine ConE.of (by decide +kernel) rfl (Nat.le_of_ble_eq_true rfl) rfl (fun X hX hZ hE => ?_)
  subst hX
  have hS0 : St T cn K N d wi_X7_readEvent wr_X7_readEvent I0 R0 I0 R0 := St.rf0 hW0
  obtain ⟨a1, d2, ta1⟩ := rf7_10 hW0 ta0
  obtain ⟨v3, c4⟩ : ∃ v, I0 a1 3 = v := ⟨_, rfl⟩
  have b5 := iv2_3 hS0.1 ta1 c4
  have p6 := pre0 _ d2
  rw [c4] at p6
  refine tr_aload_n dX7_readEvent_0 rfl ?_
  refine tr_getR dX7_readEvent_1 fl7_22 (kR7 hS0.1 ta0) d2 ?_
  obtain ⟨a7, d8, ta7⟩ := rf2_4 hW0 ta1
  refine tr_getR dX7_readEvent_4 fl7_213 (kR2 hS0.1 ta1) d8 ?_
  refine tr_aload_n dX7_readEvent_7 rfl ?_
  refine tr_getR dX7_readEvent_8 fl7_22 (kR7 hS0.1 ta0) d2 ?_
  refine q_getI dX7_readEvent_11 fl7_165 (kR2 hS0.1 ta1) c4 ?_
  obtain ⟨a9, d10, ta9⟩ := rf19 hS0.1 ta7 (j := v3.toNatClampNeg) (ti_lt (by omega) (by omega))
  refine tr_aald dX7_readEvent_14 (kR19 hS0.1 ta7) (by decide) (by decide) (ti_in (nR19 hS0.1 ta7) (by omega) (by omega)) d10 ?_
  refine tr_astore_n dX7_readEvent_15 (by decide) (by decide) ?_
  refine tr_aload_n dX7_readEvent_16 rfl ?_
  refine tr_iload_n dX7_readEvent_17 rfl ?_
  refine q_putI dX7_readEvent_18 fl7_217 (kR3 hS0.1 ta9) (Or.inl rfl) hS0 ta9 (iokF rfl) rfl (by decide +kernel) ?_
  intro I11 hS12 e13 f14
  have c15 : I11 a1 3 = v3 := (f14 _ _ (fun q => absurd q.2 (by decide))).trans c4
  refine tr_aload_n dX7_readEvent_21 rfl ?_
  refine q_bipush dX7_readEvent_22 (by decide +kernel) ?_
  intro v16 h17
  refine q_putI dX7_readEvent_24 fl7_220 (kR3 hS12.1 ta9) (Or.inl rfl) hS12 ta9 (iokF rfl) rfl (by decide +kernel) ?_
  intro I18 hS19 e20 f21
  have c22 : I18 a1 3 = v3 := (f21 _ _ (fun q => absurd q.2 (by decide))).trans c15
  have c23 : I18 a9 0 = x1 := (f21 _ _ (fun q => absurd q.2 (by decide))).trans e13
  refine tr_iload_n dX7_readEvent_27 rfl ?_
  refine q_iconst dX7_readEvent_28 (by decide) ?_
  intro v24 h25
  refine q_icmp_eq 37 dX7_readEvent_29 (by decide) (fun h26 => ?_) (fun h26 => ?_)
  · skip
    refine tr_aload_n dX7_readEvent_37 rfl ?_
    refine q_callVi hE (M' := mX7_takeHut) (as := []) dX7_readEvent_38 lk7_223 inX7_takeHut seX7_takeHut myX7_takeHut (by decide) ⟨by decide, by decide⟩ rfl (kR7 hS19.1 ta0) (Nat.le_of_ble_eq_true rfl) rfl rfl (by decide) (by decide) (k_X7_takeHut hS19.1 ta0) ?_
    rintro v31 cn' K' N' I27 R28 L29 ⟨rfl, rfl, rfl, rfl, g30, h32, -⟩
    have hS33 := hS19.tr g30 (by decide +kernel) (by decide +kernel)
    have c34 : I27 a1 3 = v3 := (g30.cell ta1 (by decide +kernel)).trans c22
    have c35 : I27 a9 0 = x1 := (g30.cell ta9 (by decide +kernel)).trans c23
    have c36 : I27 a9 1 = v16 := (g30.cell ta9 (by decide +kernel)).trans e20
    refine q_if_ne 46 dX7_readEvent_41 (by decide) (fun h37 => ?_) (fun h37 => ?_)
    · skip
      refine tr_aload_n dX7_readEvent_46 rfl ?_
      refine tr_aload_n dX7_readEvent_47 rfl ?_
      obtain ⟨v38, c39⟩ : ∃ v, I27 a0 7 = v := ⟨_, rfl⟩
      have b40 := iv7_7 hS33.1 ta0 c39
      refine q_getI dX7_readEvent_48 fl7_109 (kR7 hS33.1 ta0) c39 ?_
      refine q_putI dX7_readEvent_51 fl7_220 (kR3 hS33.1 ta9) (Or.inl rfl) hS33 ta9 (iokF rfl) rfl (by decide +kernel) ?_
      intro I41 hS42 e43 f44
      have c45 : I41 a1 3 = v3 := (f44 _ _ (fun q => absurd q.2 (by decide))).trans c34
      have c46 : I41 a9 0 = x1 := (f44 _ _ (fun q => absurd q.2 (by decide))).trans c35
      have c47 : I41 a0 7 = v38 := (f44 _ _ (fun q => absurd q.2 (by decide))).trans c39
      refine tr_iload_n dX7_readEvent_54 rfl ?_
      refine q_iconst dX7_readEvent_55 (by decide) ?_
      intro v48 h49
      refine q_icmp_ne 99 dX7_readEvent_56 (by decide) (fun h50 => ?_) (fun h50 => ?_)
      · skip
        refine tr_aload_n dX7_readEvent_99 rfl ?_
        refine q_callVi hE (M' := mX7_takeSpan) (as := []) dX7_readEvent_100 lk7_226 inX7_takeSpan seX7_takeSpan myX7_takeSpan (by decide) ⟨by decide, by decide⟩ rfl (kR7 hS42.1 ta0) (Nat.le_of_ble_eq_true rfl) rfl rfl (by decide) (by decide) (k_X7_takeSpan hS42.1 ta0) ?_
        rintro v55 cn' K' N' I51 R52 L53 ⟨rfl, rfl, rfl, rfl, g54, h56, -⟩
        have hS57 := hS42.tr g54 (by decide +kernel) (by decide +kernel)
        have c58 : I51 a1 3 = v3 := (g54.cell ta1 (by decide +kernel)).trans c45
        have c59 : I51 a9 0 = x1 := (g54.cell ta9 (by decide +kernel)).trans c46
        have c60 : I51 a9 1 = v38 := (g54.cell ta9 (by decide +kernel)).trans e43
        refine q_if_ne 108 dX7_readEvent_103 (by decide) (fun h61 => ?_) (fun h61 => ?_)
        · skip
          refine tr_aload_n dX7_readEvent_108 rfl ?_
          refine tr_aload_n dX7_readEvent_109 rfl ?_
          obtain ⟨v62, c63⟩ : ∃ v, I51 a0 8 = v := ⟨_, rfl⟩
          have b64 := iv7_8 hS57.1 ta0 c63
          refine q_getI dX7_readEvent_110 fl7_121 (kR7 hS57.1 ta0) c63 ?_
          refine q_putI dX7_readEvent_113 fl7_229 (kR3 hS57.1 ta9) (Or.inl rfl) hS57 ta9 (by show (0 : Int) ≤ v62.toInt ∧ v62.toInt ≤ (240 : Int); omega) rfl (by decide +kernel) ?_
          intro I65 hS66 e67 f68
          have c69 : I65 a1 3 = v3 := (f68 _ _ (fun q => absurd q.2 (by decide))).trans c58
          have c70 : I65 a9 0 = x1 := (f68 _ _ (fun q => absurd q.2 (by decide))).trans c59
          have c71 : I65 a9 1 = v38 := (f68 _ _ (fun q => absurd q.2 (by decide))).trans c60
          have c72 : I65 a0 8 = v62 := (f68 _ _ (fun q => absurd q.2 (by decide))).trans c63
          refine tr_aload_n dX7_readEvent_116 rfl ?_
          refine tr_aload_n dX7_readEvent_117 rfl ?_
          obtain ⟨v73, c74⟩ : ∃ v, I65 a0 9 = v := ⟨_, rfl⟩
          have b75 := iv7_9 hS66.1 ta0 c74
          refine q_getI dX7_readEvent_118 fl7_129 (kR7 hS66.1 ta0) c74 ?_
          refine q_putI dX7_readEvent_121 fl7_230 (kR3 hS66.1 ta9) (Or.inl rfl) hS66 ta9 (by show (0 : Int) ≤ v73.toInt ∧ v73.toInt ≤ (240 : Int); omega) rfl (by decide +kernel) ?_
          intro I76 hS77 e78 f79
          have c80 : I76 a1 3 = v3 := (f79 _ _ (fun q => by have z := ta1; rw [q.1, ta9] at z; exact absurd z (by decide))).trans c69
          have c81 : I76 a9 0 = x1 := (f79 _ _ (fun q => absurd q.2 (by decide))).trans c70
          have c82 : I76 a9 1 = v38 := (f79 _ _ (fun q => absurd q.2 (by decide))).trans c71
          have c83 : I76 a0 8 = v62 := (f79 _ _ (fun q => absurd q.2 (by decide))).trans c72
          have c84 : I76 a9 2 = v62 := (f79 _ _ (fun q => absurd q.2 (by decide))).trans e67
          have c85 : I76 a0 9 = v73 := (f79 _ _ (fun q => absurd q.2 (by decide))).trans c74
          refine tr_aload_n dX7_readEvent_124 rfl ?_
          refine tr_getR dX7_readEvent_125 fl7_22 (kR7 hS77.1 ta0) d2 ?_
          refine tr_dup dX7_readEvent_128 rfl ?_
          refine q_getI dX7_readEvent_129 fl7_165 (kR2 hS77.1 ta1) c80 ?_
          refine q_iconst dX7_readEvent_132 (by decide) ?_
          intro v86 h87
          refine q_iaddE dX7_readEvent_133 (by intros; omega) ?_
          intro v88 h89
          refine q_putI dX7_readEvent_134 fl7_165 (kR2 hS77.1 ta1) (Or.inl rfl) hS77 ta1 (by show (0 : Int) ≤ v88.toInt ∧ v88.toInt ≤ (14 : Int); omega) rfl (by decide +kernel) ?_
          intro I90 hS91 e92 f93
          have c94 : I90 a9 0 = x1 := (f93 _ _ (fun q => absurd q.2 (by decide))).trans c81
          have c95 : I90 a9 1 = v38 := (f93 _ _ (fun q => absurd q.2 (by decide))).trans c82
          have c96 : I90 a0 8 = v62 := (f93 _ _ (fun q => absurd q.2 (by decide))).trans c83
          have c97 : I90 a9 2 = v62 := (f93 _ _ (fun q => absurd q.2 (by decide))).trans c84
          have c98 : I90 a0 9 = v73 := (f93 _ _ (fun q => absurd q.2 (by decide))).trans c85
          have c99 : I90 a9 3 = v73 := (f93 _ _ (fun q => by have z := ta9; rw [q.1, ta1] at z; exact absurd z (by decide))).trans e78
          refine q_iconst dX7_readEvent_137 (by decide) ?_
          intro v100 h101
          exact tr_zret hZ dX7_readEvent_138 rfl (ti_b01 (by omega) (by omega)) (by decide) (by decide) ⟨v100, rfl, rfl, rfl, rfl, rfl, hS91, (by omega), trivial⟩
        · skip
          refine q_iconst dX7_readEvent_106 (by decide) ?_
          intro v102 h103
          exact tr_zret hZ dX7_readEvent_107 rfl (ti_b01 (by omega) (by omega)) (by decide) (by decide) ⟨v102, rfl, rfl, rfl, rfl, rfl, hS57, (by omega), trivial⟩
      · skip
        exfalso; omega
    · skip
      refine q_iconst dX7_readEvent_44 (by decide) ?_
      intro v104 h105
      exact tr_zret hZ dX7_readEvent_45 rfl (ti_b01 (by omega) (by omega)) (by decide) (by decide) ⟨v104, rfl, rfl, rfl, rfl, rfl, hS33, (by omega), trivial⟩
  · skip
    refine tr_iload_n dX7_readEvent_32 rfl ?_
    refine q_iconst dX7_readEvent_33 (by decide) ?_
    intro v106 h107
    refine q_icmp_ne 54 dX7_readEvent_34 (by decide) (fun h108 => ?_) (fun h108 => ?_)
    · skip
      refine tr_iload_n dX7_readEvent_54 rfl ?_
      refine q_iconst dX7_readEvent_55 (by decide) ?_
      intro v109 h110
      refine q_icmp_ne 99 dX7_readEvent_56 (by decide) (fun h111 => ?_) (fun h111 => ?_)
      · skip
        refine tr_aload_n dX7_readEvent_99 rfl ?_
        refine q_callVi hE (M' := mX7_takeSpan) (as := []) dX7_readEvent_100 lk7_226 inX7_takeSpan seX7_takeSpan myX7_takeSpan (by decide) ⟨by decide, by decide⟩ rfl (kR7 hS19.1 ta0) (Nat.le_of_ble_eq_true rfl) rfl rfl (by decide) (by decide) (k_X7_takeSpan hS19.1 ta0) ?_
        rintro v116 cn' K' N' I112 R113 L114 ⟨rfl, rfl, rfl, rfl, g115, h117, -⟩
        have hS118 := hS19.tr g115 (by decide +kernel) (by decide +kernel)
        have c119 : I112 a1 3 = v3 := (g115.cell ta1 (by decide +kernel)).trans c22
        have c120 : I112 a9 0 = x1 := (g115.cell ta9 (by decide +kernel)).trans c23
        have c121 : I112 a9 1 = v16 := (g115.cell ta9 (by decide +kernel)).trans e20
        refine q_if_ne 108 dX7_readEvent_103 (by decide) (fun h122 => ?_) (fun h122 => ?_)
        · skip
          refine tr_aload_n dX7_readEvent_108 rfl ?_
          refine tr_aload_n dX7_readEvent_109 rfl ?_
          obtain ⟨v123, c124⟩ : ∃ v, I112 a0 8 = v := ⟨_, rfl⟩
          have b125 := iv7_8 hS118.1 ta0 c124
          refine q_getI dX7_readEvent_110 fl7_121 (kR7 hS118.1 ta0) c124 ?_
          refine q_putI dX7_readEvent_113 fl7_229 (kR3 hS118.1 ta9) (Or.inl rfl) hS118 ta9 (by show (0 : Int) ≤ v123.toInt ∧ v123.toInt ≤ (240 : Int); omega) rfl (by decide +kernel) ?_
          intro I126 hS127 e128 f129
          have c130 : I126 a1 3 = v3 := (f129 _ _ (fun q => absurd q.2 (by decide))).trans c119
          have c131 : I126 a9 0 = x1 := (f129 _ _ (fun q => absurd q.2 (by decide))).trans c120
          have c132 : I126 a9 1 = v16 := (f129 _ _ (fun q => absurd q.2 (by decide))).trans c121
          have c133 : I126 a0 8 = v123 := (f129 _ _ (fun q => absurd q.2 (by decide))).trans c124
          refine tr_aload_n dX7_readEvent_116 rfl ?_
          refine tr_aload_n dX7_readEvent_117 rfl ?_
          obtain ⟨v134, c135⟩ : ∃ v, I126 a0 9 = v := ⟨_, rfl⟩
          have b136 := iv7_9 hS127.1 ta0 c135
          refine q_getI dX7_readEvent_118 fl7_129 (kR7 hS127.1 ta0) c135 ?_
          refine q_putI dX7_readEvent_121 fl7_230 (kR3 hS127.1 ta9) (Or.inl rfl) hS127 ta9 (by show (0 : Int) ≤ v134.toInt ∧ v134.toInt ≤ (240 : Int); omega) rfl (by decide +kernel) ?_
          intro I137 hS138 e139 f140
          have c141 : I137 a1 3 = v3 := (f140 _ _ (fun q => by have z := ta1; rw [q.1, ta9] at z; exact absurd z (by decide))).trans c130
          have c142 : I137 a9 0 = x1 := (f140 _ _ (fun q => absurd q.2 (by decide))).trans c131
          have c143 : I137 a9 1 = v16 := (f140 _ _ (fun q => absurd q.2 (by decide))).trans c132
          have c144 : I137 a0 8 = v123 := (f140 _ _ (fun q => absurd q.2 (by decide))).trans c133
          have c145 : I137 a9 2 = v123 := (f140 _ _ (fun q => absurd q.2 (by decide))).trans e128
          have c146 : I137 a0 9 = v134 := (f140 _ _ (fun q => absurd q.2 (by decide))).trans c135
          refine tr_aload_n dX7_readEvent_124 rfl ?_
          refine tr_getR dX7_readEvent_125 fl7_22 (kR7 hS138.1 ta0) d2 ?_
          refine tr_dup dX7_readEvent_128 rfl ?_
          refine q_getI dX7_readEvent_129 fl7_165 (kR2 hS138.1 ta1) c141 ?_
          refine q_iconst dX7_readEvent_132 (by decide) ?_
          intro v147 h148
          refine q_iaddE dX7_readEvent_133 (by intros; omega) ?_
          intro v149 h150
          refine q_putI dX7_readEvent_134 fl7_165 (kR2 hS138.1 ta1) (Or.inl rfl) hS138 ta1 (by show (0 : Int) ≤ v149.toInt ∧ v149.toInt ≤ (14 : Int); omega) rfl (by decide +kernel) ?_
          intro I151 hS152 e153 f154
          have c155 : I151 a9 0 = x1 := (f154 _ _ (fun q => absurd q.2 (by decide))).trans c142
          have c156 : I151 a9 1 = v16 := (f154 _ _ (fun q => absurd q.2 (by decide))).trans c143
          have c157 : I151 a0 8 = v123 := (f154 _ _ (fun q => absurd q.2 (by decide))).trans c144
          have c158 : I151 a9 2 = v123 := (f154 _ _ (fun q => absurd q.2 (by decide))).trans c145
          have c159 : I151 a0 9 = v134 := (f154 _ _ (fun q => absurd q.2 (by decide))).trans c146
          have c160 : I151 a9 3 = v134 := (f154 _ _ (fun q => by have z := ta9; rw [q.1, ta1] at z; exact absurd z (by decide))).trans e139
          refine q_iconst dX7_readEvent_137 (by decide) ?_
          intro v161 h162
          exact tr_zret hZ dX7_readEvent_138 rfl (ti_b01 (by omega) (by omega)) (by decide) (by decide) ⟨v161, rfl, rfl, rfl, rfl, rfl, hS152, (by omega), trivial⟩
        · skip
          refine q_iconst dX7_readEvent_106 (by decide) ?_
          intro v163 h164
          exact tr_zret hZ dX7_readEvent_107 rfl (ti_b01 (by omega) (by omega)) (by decide) (by decide) ⟨v163, rfl, rfl, rfl, rfl, rfl, hS118, (by omega), trivial⟩
      · skip
        refine tr_aload_n dX7_readEvent_59 rfl ?_
        refine q_iconst dX7_readEvent_60 (by decide) ?_
        intro v165 h166
        refine tr_aload_n dX7_readEvent_61 rfl ?_
        refine tr_getR dX7_readEvent_62 fl7_22 (kR7 hS19.1 ta0) d2 ?_
        obtain ⟨v167, c168⟩ : ∃ v, I0 a1 0 = v := ⟨_, rfl⟩
        have b169 := iv2_0 hW0 ta1 c168
        refine q_getI dX7_readEvent_65 fl7_118 (kR2 hS19.1 ta1) ((hS19.cell ta1 (by decide +kernel)).trans c168) ?_
        refine q_iconst dX7_readEvent_68 (by decide) ?_
        intro v170 h171
        refine q_isubE dX7_readEvent_69 (by intros; omega) ?_
        intro v172 h173
        refine q_callVi hE (M' := mX7_takeWhole) (as := [_, _]) dX7_readEvent_70 lk7_115 inX7_takeWhole seX7_takeWhole myX7_takeWhole (by decide) ⟨by decide, by decide⟩ rfl (kR7 hS19.1 ta0) (Nat.le_of_ble_eq_true rfl) rfl rfl (by decide) (by decide) (k_X7_takeWhole hS19.1 ta0 (by omega) (by omega)) ?_
        rintro v178 cn' K' N' I174 R175 L176 ⟨rfl, rfl, rfl, rfl, g177, h179, p180, -⟩
        have hS181 := hS19.tr g177 (by decide +kernel) (by decide +kernel)
        have c182 : I174 a1 3 = v3 := (g177.cell ta1 (by decide +kernel)).trans c22
        have c183 : I174 a9 0 = x1 := (g177.cell ta9 (by decide +kernel)).trans c23
        have c184 : I174 a9 1 = v16 := (g177.cell ta9 (by decide +kernel)).trans e20
        obtain ⟨v185, c186⟩ : ∃ v, I174 a0 7 = v := ⟨_, rfl⟩
        have b187 := iv7_7 hS181.1 ta0 c186
        rw [c186] at p180
        refine q_if_ne 78 dX7_readEvent_73 (by decide) (fun h188 => ?_) (fun h188 => ?_)
        · skip
          refine tr_aload_n dX7_readEvent_78 rfl ?_
          refine tr_aload_n dX7_readEvent_79 rfl ?_
          refine q_getI dX7_readEvent_80 fl7_109 (kR7 hS181.1 ta0) c186 ?_
          refine q_putI dX7_readEvent_83 fl7_121 (kR7 hS181.1 ta0) (Or.inl rfl) hS181 ta0 (by show (0 : Int) ≤ v185.toInt ∧ v185.toInt ≤ (240 : Int); omega) rfl (by decide +kernel) ?_
          intro I189 hS190 e191 f192
          have c193 : I189 a1 3 = v3 := (f192 _ _ (fun q => absurd q.2 (by decide))).trans c182
          have c194 : I189 a9 0 = x1 := (f192 _ _ (fun q => absurd q.2 (by decide))).trans c183
          have c195 : I189 a9 1 = v16 := (f192 _ _ (fun q => absurd q.2 (by decide))).trans c184
          have c196 : I189 a0 7 = v185 := (f192 _ _ (fun q => absurd q.2 (by decide))).trans c186
          refine tr_aload_n dX7_readEvent_86 rfl ?_
          refine tr_aload_n dX7_readEvent_87 rfl ?_
          refine q_getI dX7_readEvent_88 fl7_109 (kR7 hS190.1 ta0) c196 ?_
          refine q_iconst dX7_readEvent_91 (by decide) ?_
          intro v197 h198
          refine q_iaddE dX7_readEvent_92 (by intros; omega) ?_
          intro v199 h200
          refine q_putI dX7_readEvent_93 fl7_129 (kR7 hS190.1 ta0) (Or.inl rfl) hS190 ta0 (by show (0 : Int) ≤ v199.toInt ∧ v199.toInt ≤ (240 : Int); omega) rfl (by decide +kernel) ?_
          intro I201 hS202 e203 f204
          have c205 : I201 a1 3 = v3 := (f204 _ _ (fun q => absurd q.2 (by decide))).trans c193
          have c206 : I201 a9 0 = x1 := (f204 _ _ (fun q => absurd q.2 (by decide))).trans c194
          have c207 : I201 a9 1 = v16 := (f204 _ _ (fun q => absurd q.2 (by decide))).trans c195
          have c208 : I201 a0 7 = v185 := (f204 _ _ (fun q => absurd q.2 (by decide))).trans c196
          have c209 : I201 a0 8 = v185 := (f204 _ _ (fun q => absurd q.2 (by decide))).trans e191
          refine tr_goto 108 dX7_readEvent_96 (by decide) ?_
          refine tr_aload_n dX7_readEvent_108 rfl ?_
          refine tr_aload_n dX7_readEvent_109 rfl ?_
          refine q_getI dX7_readEvent_110 fl7_121 (kR7 hS202.1 ta0) c209 ?_
          refine q_putI dX7_readEvent_113 fl7_229 (kR3 hS202.1 ta9) (Or.inl rfl) hS202 ta9 (by show (0 : Int) ≤ v185.toInt ∧ v185.toInt ≤ (240 : Int); omega) rfl (by decide +kernel) ?_
          intro I210 hS211 e212 f213
          have c214 : I210 a1 3 = v3 := (f213 _ _ (fun q => absurd q.2 (by decide))).trans c205
          have c215 : I210 a9 0 = x1 := (f213 _ _ (fun q => absurd q.2 (by decide))).trans c206
          have c216 : I210 a9 1 = v16 := (f213 _ _ (fun q => absurd q.2 (by decide))).trans c207
          have c217 : I210 a0 7 = v185 := (f213 _ _ (fun q => absurd q.2 (by decide))).trans c208
          have c218 : I210 a0 8 = v185 := (f213 _ _ (fun q => absurd q.2 (by decide))).trans c209
          have c219 : I210 a0 9 = v199 := (f213 _ _ (fun q => absurd q.2 (by decide))).trans e203
          refine tr_aload_n dX7_readEvent_116 rfl ?_
          refine tr_aload_n dX7_readEvent_117 rfl ?_
          refine q_getI dX7_readEvent_118 fl7_129 (kR7 hS211.1 ta0) c219 ?_
          refine q_putI dX7_readEvent_121 fl7_230 (kR3 hS211.1 ta9) (Or.inl rfl) hS211 ta9 (by show (0 : Int) ≤ v199.toInt ∧ v199.toInt ≤ (240 : Int); omega) rfl (by decide +kernel) ?_
          intro I220 hS221 e222 f223
          have c224 : I220 a1 3 = v3 := (f223 _ _ (fun q => by have z := ta1; rw [q.1, ta9] at z; exact absurd z (by decide))).trans c214
          have c225 : I220 a9 0 = x1 := (f223 _ _ (fun q => absurd q.2 (by decide))).trans c215
          have c226 : I220 a9 1 = v16 := (f223 _ _ (fun q => absurd q.2 (by decide))).trans c216
          have c227 : I220 a0 7 = v185 := (f223 _ _ (fun q => absurd q.2 (by decide))).trans c217
          have c228 : I220 a0 8 = v185 := (f223 _ _ (fun q => absurd q.2 (by decide))).trans c218
          have c229 : I220 a0 9 = v199 := (f223 _ _ (fun q => absurd q.2 (by decide))).trans c219
          have c230 : I220 a9 2 = v185 := (f223 _ _ (fun q => absurd q.2 (by decide))).trans e212
          refine tr_aload_n dX7_readEvent_124 rfl ?_
          refine tr_getR dX7_readEvent_125 fl7_22 (kR7 hS221.1 ta0) d2 ?_
          refine tr_dup dX7_readEvent_128 rfl ?_
          refine q_getI dX7_readEvent_129 fl7_165 (kR2 hS221.1 ta1) c224 ?_
          refine q_iconst dX7_readEvent_132 (by decide) ?_
          intro v231 h232
          refine q_iaddE dX7_readEvent_133 (by intros; omega) ?_
          intro v233 h234
          refine q_putI dX7_readEvent_134 fl7_165 (kR2 hS221.1 ta1) (Or.inl rfl) hS221 ta1 (by show (0 : Int) ≤ v233.toInt ∧ v233.toInt ≤ (14 : Int); omega) rfl (by decide +kernel) ?_
          intro I235 hS236 e237 f238
          have c239 : I235 a9 0 = x1 := (f238 _ _ (fun q => absurd q.2 (by decide))).trans c225
          have c240 : I235 a9 1 = v16 := (f238 _ _ (fun q => absurd q.2 (by decide))).trans c226
          have c241 : I235 a0 7 = v185 := (f238 _ _ (fun q => absurd q.2 (by decide))).trans c227
          have c242 : I235 a0 8 = v185 := (f238 _ _ (fun q => absurd q.2 (by decide))).trans c228
          have c243 : I235 a0 9 = v199 := (f238 _ _ (fun q => absurd q.2 (by decide))).trans c229
          have c244 : I235 a9 2 = v185 := (f238 _ _ (fun q => absurd q.2 (by decide))).trans c230
          have c245 : I235 a9 3 = v199 := (f238 _ _ (fun q => by have z := ta9; rw [q.1, ta1] at z; exact absurd z (by decide))).trans e222
          refine q_iconst dX7_readEvent_137 (by decide) ?_
          intro v246 h247
          exact tr_zret hZ dX7_readEvent_138 rfl (ti_b01 (by omega) (by omega)) (by decide) (by decide) ⟨v246, rfl, rfl, rfl, rfl, rfl, hS236, (by omega), trivial⟩
        · skip
          refine q_iconst dX7_readEvent_76 (by decide) ?_
          intro v248 h249
          exact tr_zret hZ dX7_readEvent_77 rfl (ti_b01 (by omega) (by omega)) (by decide) (by decide) ⟨v248, rfl, rfl, rfl, rfl, rfl, hS181, (by omega), trivial⟩
    · skip
      refine tr_aload_n dX7_readEvent_37 rfl ?_
      refine q_callVi hE (M' := mX7_takeHut) (as := []) dX7_readEvent_38 lk7_223 inX7_takeHut seX7_takeHut myX7_takeHut (by decide) ⟨by decide, by decide⟩ rfl (kR7 hS19.1 ta0) (Nat.le_of_ble_eq_true rfl) rfl rfl (by decide) (by decide) (k_X7_takeHut hS19.1 ta0) ?_
      rintro v254 cn' K' N' I250 R251 L252 ⟨rfl, rfl, rfl, rfl, g253, h255, -⟩
      have hS256 := hS19.tr g253 (by decide +kernel) (by decide +kernel)
      have c257 : I250 a1 3 = v3 := (g253.cell ta1 (by decide +kernel)).trans c22
      have c258 : I250 a9 0 = x1 := (g253.cell ta9 (by decide +kernel)).trans c23
      have c259 : I250 a9 1 = v16 := (g253.cell ta9 (by decide +kernel)).trans e20
      refine q_if_ne 46 dX7_readEvent_41 (by decide) (fun h260 => ?_) (fun h260 => ?_)
      · skip
        refine tr_aload_n dX7_readEvent_46 rfl ?_
        refine tr_aload_n dX7_readEvent_47 rfl ?_
        obtain ⟨v261, c262⟩ : ∃ v, I250 a0 7 = v := ⟨_, rfl⟩
        have b263 := iv7_7 hS256.1 ta0 c262
        refine q_getI dX7_readEvent_48 fl7_109 (kR7 hS256.1 ta0) c262 ?_
        refine q_putI dX7_readEvent_51 fl7_220 (kR3 hS256.1 ta9) (Or.inl rfl) hS256 ta9 (iokF rfl) rfl (by decide +kernel) ?_
        intro I264 hS265 e266 f267
        have c268 : I264 a1 3 = v3 := (f267 _ _ (fun q => absurd q.2 (by decide))).trans c257
        have c269 : I264 a9 0 = x1 := (f267 _ _ (fun q => absurd q.2 (by decide))).trans c258
        have c270 : I264 a0 7 = v261 := (f267 _ _ (fun q => absurd q.2 (by decide))).trans c262
        refine tr_iload_n dX7_readEvent_54 rfl ?_
        refine q_iconst dX7_readEvent_55 (by decide) ?_
        intro v271 h272
        refine q_icmp_ne 99 dX7_readEvent_56 (by decide) (fun h273 => ?_) (fun h273 => ?_)
        · skip
          refine tr_aload_n dX7_readEvent_99 rfl ?_
          refine q_callVi hE (M' := mX7_takeSpan) (as := []) dX7_readEvent_100 lk7_226 inX7_takeSpan seX7_takeSpan myX7_takeSpan (by decide) ⟨by decide, by decide⟩ rfl (kR7 hS265.1 ta0) (Nat.le_of_ble_eq_true rfl) rfl rfl (by decide) (by decide) (k_X7_takeSpan hS265.1 ta0) ?_
          rintro v278 cn' K' N' I274 R275 L276 ⟨rfl, rfl, rfl, rfl, g277, h279, -⟩
          have hS280 := hS265.tr g277 (by decide +kernel) (by decide +kernel)
          have c281 : I274 a1 3 = v3 := (g277.cell ta1 (by decide +kernel)).trans c268
          have c282 : I274 a9 0 = x1 := (g277.cell ta9 (by decide +kernel)).trans c269
          have c283 : I274 a9 1 = v261 := (g277.cell ta9 (by decide +kernel)).trans e266
          refine q_if_ne 108 dX7_readEvent_103 (by decide) (fun h284 => ?_) (fun h284 => ?_)
          · skip
            refine tr_aload_n dX7_readEvent_108 rfl ?_
            refine tr_aload_n dX7_readEvent_109 rfl ?_
            obtain ⟨v285, c286⟩ : ∃ v, I274 a0 8 = v := ⟨_, rfl⟩
            have b287 := iv7_8 hS280.1 ta0 c286
            refine q_getI dX7_readEvent_110 fl7_121 (kR7 hS280.1 ta0) c286 ?_
            refine q_putI dX7_readEvent_113 fl7_229 (kR3 hS280.1 ta9) (Or.inl rfl) hS280 ta9 (by show (0 : Int) ≤ v285.toInt ∧ v285.toInt ≤ (240 : Int); omega) rfl (by decide +kernel) ?_
            intro I288 hS289 e290 f291
            have c292 : I288 a1 3 = v3 := (f291 _ _ (fun q => absurd q.2 (by decide))).trans c281
            have c293 : I288 a9 0 = x1 := (f291 _ _ (fun q => absurd q.2 (by decide))).trans c282
            have c294 : I288 a9 1 = v261 := (f291 _ _ (fun q => absurd q.2 (by decide))).trans c283
            have c295 : I288 a0 8 = v285 := (f291 _ _ (fun q => absurd q.2 (by decide))).trans c286
            refine tr_aload_n dX7_readEvent_116 rfl ?_
            refine tr_aload_n dX7_readEvent_117 rfl ?_
            obtain ⟨v296, c297⟩ : ∃ v, I288 a0 9 = v := ⟨_, rfl⟩
            have b298 := iv7_9 hS289.1 ta0 c297
            refine q_getI dX7_readEvent_118 fl7_129 (kR7 hS289.1 ta0) c297 ?_
            refine q_putI dX7_readEvent_121 fl7_230 (kR3 hS289.1 ta9) (Or.inl rfl) hS289 ta9 (by show (0 : Int) ≤ v296.toInt ∧ v296.toInt ≤ (240 : Int); omega) rfl (by decide +kernel) ?_
            intro I299 hS300 e301 f302
            have c303 : I299 a1 3 = v3 := (f302 _ _ (fun q => by have z := ta1; rw [q.1, ta9] at z; exact absurd z (by decide))).trans c292
            have c304 : I299 a9 0 = x1 := (f302 _ _ (fun q => absurd q.2 (by decide))).trans c293
            have c305 : I299 a9 1 = v261 := (f302 _ _ (fun q => absurd q.2 (by decide))).trans c294
            have c306 : I299 a0 8 = v285 := (f302 _ _ (fun q => absurd q.2 (by decide))).trans c295
            have c307 : I299 a9 2 = v285 := (f302 _ _ (fun q => absurd q.2 (by decide))).trans e290
            have c308 : I299 a0 9 = v296 := (f302 _ _ (fun q => absurd q.2 (by decide))).trans c297
            refine tr_aload_n dX7_readEvent_124 rfl ?_
            refine tr_getR dX7_readEvent_125 fl7_22 (kR7 hS300.1 ta0) d2 ?_
            refine tr_dup dX7_readEvent_128 rfl ?_
            refine q_getI dX7_readEvent_129 fl7_165 (kR2 hS300.1 ta1) c303 ?_
            refine q_iconst dX7_readEvent_132 (by decide) ?_
            intro v309 h310
            refine q_iaddE dX7_readEvent_133 (by intros; omega) ?_
            intro v311 h312
            refine q_putI dX7_readEvent_134 fl7_165 (kR2 hS300.1 ta1) (Or.inl rfl) hS300 ta1 (by show (0 : Int) ≤ v311.toInt ∧ v311.toInt ≤ (14 : Int); omega) rfl (by decide +kernel) ?_
            intro I313 hS314 e315 f316
            have c317 : I313 a9 0 = x1 := (f316 _ _ (fun q => absurd q.2 (by decide))).trans c304
            have c318 : I313 a9 1 = v261 := (f316 _ _ (fun q => absurd q.2 (by decide))).trans c305
            have c319 : I313 a0 8 = v285 := (f316 _ _ (fun q => absurd q.2 (by decide))).trans c306
            have c320 : I313 a9 2 = v285 := (f316 _ _ (fun q => absurd q.2 (by decide))).trans c307
            have c321 : I313 a0 9 = v296 := (f316 _ _ (fun q => absurd q.2 (by decide))).trans c308
            have c322 : I313 a9 3 = v296 := (f316 _ _ (fun q => by have z := ta9; rw [q.1, ta1] at z; exact absurd z (by decide))).trans e301
            refine q_iconst dX7_readEvent_137 (by decide) ?_
            intro v323 h324
            exact tr_zret hZ dX7_readEvent_138 rfl (ti_b01 (by omega) (by omega)) (by decide) (by decide) ⟨v323, rfl, rfl, rfl, rfl, rfl, hS314, (by omega), trivial⟩
          · skip
            refine q_iconst dX7_readEvent_106 (by decide) ?_
            intro v325 h326
            exact tr_zret hZ dX7_readEvent_107 rfl (ti_b01 (by omega) (by omega)) (by decide) (by decide) ⟨v325, rfl, rfl, rfl, rfl, rfl, hS280, (by omega), trivial⟩
        · skip
          exfalso; omega
      · skip
        refine q_iconst dX7_readEvent_44 (by decide) ?_
        intro v327 h328
        exact tr_zret hZ dX7_readEvent_45 rfl (ti_b01 (by omega) (by omega)) (by decide) (by decide) ⟨v327, rfl, rfl, rfl, rfl, rfl, hS256, (by omega), trivial⟩
set_option maxHeartbeats 4000000 in
theorem k_X7_seesName {l : Launch} {T : Nat → Nat} {cn : Nat} {K N : Nat → Nat} {I0 : cz_I} {R0 : cz_R} {L0 : cz_L} {d : Int} (hW0 : Wf T cn K N I0 R0 d) {a0 : Nat} (ta0 : T a0 = 7) : ConE l mX7_seesName [.ref a0] cn K N I0 R0 L0 (ca_i (fun v cn' K' N' I' R' L' => cn = cn' ∧ K = K' ∧ N = N' ∧ I0 = I' ∧ R0 = R' ∧ L0 = L' ∧ (0 ≤ v.toInt ∧ v.toInt ≤ 1) ∧ True)) := by
  refine ConE.of (by decide +kernel) rfl (Nat.le_of_ble_eq_true rfl) rfl (fun X hX hZ hE => ?_)
  subst hX
  refine tr_aload_n dX7_seesName_0 rfl ?_
  obtain ⟨v1, c2⟩ : ∃ v, I0 a0 3 = v := ⟨_, rfl⟩
  have b3 := iv7_3 hW0 ta0 c2
  refine q_getI dX7_seesName_1 fl7_58 (kR7 hW0 ta0) c2 ?_
  refine q_iconst dX7_seesName_4 (by decide) ?_
  intro v4 h5
  refine q_icmp_ne 29 dX7_seesName_5 (by decide) (fun h6 => ?_) (fun h6 => ?_)
  · skip
    refine q_iconst dX7_seesName_29 (by decide) ?_
    intro v7 h8
    exact tr_zret hZ dX7_seesName_30 rfl (ti_b01 (by omega) (by omega)) (by decide) (by decide) ⟨v7, rfl, rfl, rfl, rfl, rfl, rfl, rfl, (by omega), trivial⟩
  · skip
    refine tr_aload_n dX7_seesName_8 rfl ?_
    refine tr_ldcS dX7_seesName_9 ld7_238 ?_
    refine q_callVi hE (M' := mX7_seesWord) (as := [_]) dX7_seesName_11 lk7_101 inX7_seesWord seX7_seesWord myX7_seesWord (by decide) ⟨by decide, by decide⟩ rfl (kR7 hW0 ta0) (Nat.le_of_ble_eq_true rfl) rfl rfl (by decide) (by decide) (k_X7_seesWord hW0 ta0 (by decide)) ?_
    rintro v13 cn' K' N' I9 R10 L11 ⟨rfl, rfl, rfl, rfl, rfl, rfl, h14, -⟩
    refine q_if_ne 29 dX7_seesName_14 (by decide) (fun h15 => ?_) (fun h15 => ?_)
    · skip
      refine q_iconst dX7_seesName_29 (by decide) ?_
      intro v16 h17
      exact tr_zret hZ dX7_seesName_30 rfl (ti_b01 (by omega) (by omega)) (by decide) (by decide) ⟨v16, rfl, rfl, rfl, rfl, rfl, rfl, rfl, (by omega), trivial⟩
    · skip
      refine tr_aload_n dX7_seesName_17 rfl ?_
      refine q_callVi hE (M' := mX7_sortOfWord) (as := []) dX7_seesName_18 lk7_168 inX7_sortOfWord seX7_sortOfWord myX7_sortOfWord (by decide) ⟨by decide, by decide⟩ rfl (kR7 hW0 ta0) (Nat.le_of_ble_eq_true rfl) rfl rfl (by decide) (by decide) (k_X7_sortOfWord hW0 ta0) ?_
      rintro v22 cn' K' N' I18 R19 L20 ⟨rfl, rfl, rfl, rfl, rfl, rfl, h23, -⟩
      refine q_iconst dX7_seesName_21 (by decide) ?_
      intro v24 h25
      refine q_icmp_ne 29 dX7_seesName_22 (by decide) (fun h26 => ?_) (fun h26 => ?_)
      · skip
        refine q_iconst dX7_seesName_29 (by decide) ?_
        intro v27 h28
        exact tr_zret hZ dX7_seesName_30 rfl (ti_b01 (by omega) (by omega)) (by decide) (by decide) ⟨v27, rfl, rfl, rfl, rfl, rfl, rfl, rfl, (by omega), trivial⟩
      · skip
        refine q_iconst dX7_seesName_25 (by decide) ?_
        intro v29 h30
        refine tr_goto 30 dX7_seesName_26 (by decide) ?_
        exact tr_zret hZ dX7_seesName_30 rfl (ti_b01 (by omega) (by omega)) (by decide) (by decide) ⟨v29, rfl, rfl, rfl, rfl, rfl, rfl, rfl, (by omega), trivial⟩
set_option maxHeartbeats 4000000 in
theorem k_X7_isToldCheese {l : Launch} {T : Nat → Nat} {cn : Nat} {K N : Nat → Nat} {I0 : cz_I} {R0 : cz_R} {L0 : cz_L} {d : Int} (hW0 : Wf T cn K N I0 R0 d) {a0 : Nat} (ta0 : T a0 = 7) : ConE l mX7_isToldCheese [.ref a0] cn K N I0 R0 L0 (ca_i (fun v cn' K' N' I' R' L' => cn = cn' ∧ K = K' ∧ N = N' ∧ I0 = I' ∧ R0 = R' ∧ L0 = L' ∧ (0 ≤ v.toInt ∧ v.toInt ≤ 1) ∧ True)) := by
  refine ConE.of (by decide +kernel) rfl (Nat.le_of_ble_eq_true rfl) rfl (fun X hX hZ hE => ?_)
  subst hX
  refine q_iconst dX7_isToldCheese_0 (by decide) ?_
  intro v1 h2
  refine tr_istore_n dX7_isToldCheese_1 (by decide) (by decide) ?_
  have lp7 : ∀ (fu : Nat) (ls : Nat → Option Value) (v3 : Int32), ls 0 = some (.ref a0) → ls 1 = some (.int v3) → 0 ≤ v3.toInt → (-v3.toInt + 2147483647).toNat < fu → Tr X mX7_isToldCheese 2 ls [] cn K N I0 R0 L0 0 0 := by
    intro fu
    induction fu with
    | zero => intros; rename_i hz; exact absurd hz (Nat.not_lt_zero _)
    | succ fu ih7 =>
      intro ls v3 hl4 hl5 g6 hm7
      refine tr_iload_n dX7_isToldCheese_2 hl5 ?_
      refine tr_aload_n dX7_isToldCheese_3 hl4 ?_
      obtain ⟨a9, d10, ta9⟩ := rf7_10 hW0 ta0
      refine tr_getR dX7_isToldCheese_4 fl7_22 (kR7 hW0 ta0) d10 ?_
      obtain ⟨v11, c12⟩ : ∃ v, I0 a9 5 = v := ⟨_, rfl⟩
      have b13 := iv2_5 hW0 ta9 c12
      refine q_getI dX7_isToldCheese_7 fl7_61 (kR2 hW0 ta9) c12 ?_
      refine q_icmp_ge 35 dX7_isToldCheese_10 (by decide) (fun h14 => ?_) (fun h14 => ?_)
      · skip
        refine q_iconst dX7_isToldCheese_35 (by decide) ?_
        intro v15 h16
        exact tr_zret hZ dX7_isToldCheese_36 rfl (ti_b01 (by omega) (by omega)) (by decide) (by decide) ⟨v15, rfl, rfl, rfl, rfl, rfl, rfl, rfl, (by omega), trivial⟩
      · skip
        refine tr_aload_n dX7_isToldCheese_13 hl4 ?_
        obtain ⟨a17, d18, ta17⟩ := rf7_13 hW0 ta0
        refine tr_getR dX7_isToldCheese_14 fl7_9 (kR7 hW0 ta0) d18 ?_
        refine tr_iload_n dX7_isToldCheese_17 hl5 ?_
        refine q_lald dX7_isToldCheese_18 (kR25 hW0 ta17) (ti_in (nR25 hW0 ta17) (by omega) (by omega)) ?_
        intro y19
        refine tr_aload_n dX7_isToldCheese_19 hl4 ?_
        refine q_getL dX7_isToldCheese_20 fl7_78 (kR7 hW0 ta0) ?_
        intro y20
        refine q_lcmp dX7_isToldCheese_23 ?_
        intro v21
        refine q_if_ne 29 dX7_isToldCheese_24 (by decide) (fun h22 => ?_) (fun h22 => ?_)
        · skip
          refine q_iincE dX7_isToldCheese_29 hl5 (by decide) (by decide) (by intros; omega) ?_
          intro v23 h24
          refine tr_goto 2 dX7_isToldCheese_32 (by decide) ?_
          exact ih7 _ v23 hl4 rfl (by omega) (by omega)
        · skip
          refine q_iconst dX7_isToldCheese_27 (by decide) ?_
          intro v25 h26
          exact tr_zret hZ dX7_isToldCheese_28 rfl (ti_b01 (by omega) (by omega)) (by decide) (by decide) ⟨v25, rfl, rfl, rfl, rfl, rfl, rfl, rfl, (by omega), trivial⟩
  exact lp7 _ _ v1 rfl rfl (by omega) (Nat.lt_succ_self _)
set_option maxHeartbeats 4000000 in
theorem k_X7_namedTurner {l : Launch} {T : Nat → Nat} {cn : Nat} {K N : Nat → Nat} {I0 : cz_I} {R0 : cz_R} {L0 : cz_L} {d : Int} (hW0 : Wf T cn K N I0 R0 d) {a0 : Nat} (ta0 : T a0 = 7) : ConE l mX7_namedTurner [.ref a0] cn K N I0 R0 L0 (ca_i (fun v cn' K' N' I' R' L' => cn = cn' ∧ K = K' ∧ N = N' ∧ I0 = I' ∧ R0 = R' ∧ L0 = L' ∧ ((-1) ≤ v.toInt ∧ v.toInt ≤ 4) ∧ True)) := by
  refine ConE.of (by decide +kernel) rfl (Nat.le_of_ble_eq_true rfl) rfl (fun X hX hZ hE => ?_)
  subst hX
  refine q_iconst dX7_namedTurner_0 (by decide) ?_
  intro v1 h2
  refine tr_istore_n dX7_namedTurner_1 (by decide) (by decide) ?_
  have lp7 : ∀ (fu : Nat) (ls : Nat → Option Value) (v3 : Int32), ls 0 = some (.ref a0) → ls 1 = some (.int v3) → 0 ≤ v3.toInt → (-v3.toInt + 2147483647).toNat < fu → Tr X mX7_namedTurner 2 ls [] cn K N I0 R0 L0 0 0 := by
    intro fu
    induction fu with
    | zero => intros; rename_i hz; exact absurd hz (Nat.not_lt_zero _)
    | succ fu ih7 =>
      intro ls v3 hl4 hl5 g6 hm7
      refine tr_iload_n dX7_namedTurner_2 hl5 ?_
      refine tr_aload_n dX7_namedTurner_3 hl4 ?_
      obtain ⟨a9, d10, ta9⟩ := rf7_10 hW0 ta0
      refine tr_getR dX7_namedTurner_4 fl7_22 (kR7 hW0 ta0) d10 ?_
      obtain ⟨v11, c12⟩ : ∃ v, I0 a9 9 = v := ⟨_, rfl⟩
      have b13 := iv2_9 hW0 ta9 c12
      refine q_getI dX7_namedTurner_7 fl7_156 (kR2 hW0 ta9) c12 ?_
      refine q_icmp_ge 35 dX7_namedTurner_10 (by decide) (fun h14 => ?_) (fun h14 => ?_)
      · skip
        refine q_iconst dX7_namedTurner_35 (by decide) ?_
        intro v15 h16
        exact tr_iret hZ dX7_namedTurner_36 rfl (by decide) (by decide) ⟨v15, rfl, rfl, rfl, rfl, rfl, rfl, rfl, (by omega), trivial⟩
      · skip
        refine tr_aload_n dX7_namedTurner_13 hl4 ?_
        obtain ⟨a17, d18, ta17⟩ := rf7_14 hW0 ta0
        refine tr_getR dX7_namedTurner_14 fl7_15 (kR7 hW0 ta0) d18 ?_
        refine tr_iload_n dX7_namedTurner_17 hl5 ?_
        refine q_lald dX7_namedTurner_18 (kR26 hW0 ta17) (ti_in (nR26 hW0 ta17) (by omega) (by omega)) ?_
        intro y19
        refine tr_aload_n dX7_namedTurner_19 hl4 ?_
        refine q_getL dX7_namedTurner_20 fl7_78 (kR7 hW0 ta0) ?_
        intro y20
        refine q_lcmp dX7_namedTurner_23 ?_
        intro v21
        refine q_if_ne 29 dX7_namedTurner_24 (by decide) (fun h22 => ?_) (fun h22 => ?_)
        · skip
          refine q_iincE dX7_namedTurner_29 hl5 (by decide) (by decide) (by intros; omega) ?_
          intro v23 h24
          refine tr_goto 2 dX7_namedTurner_32 (by decide) ?_
          exact ih7 _ v23 hl4 rfl (by omega) (by omega)
        · skip
          refine tr_iload_n dX7_namedTurner_27 hl5 ?_
          exact tr_iret hZ dX7_namedTurner_28 rfl (by decide) (by decide) ⟨v3, rfl, rfl, rfl, rfl, rfl, rfl, rfl, (by omega), trivial⟩
  exact lp7 _ _ v1 rfl rfl (by omega) (Nat.lt_succ_self _)
def wi_X7_seesNewName : List Nat := [463, 464]
def wr_X7_seesNewName : List Nat := []
set_option maxHeartbeats 4000000 in
theorem k_X7_seesNewName {l : Launch} {T : Nat → Nat} {cn : Nat} {K N : Nat → Nat} {I0 : cz_I} {R0 : cz_R} {L0 : cz_L} {d : Int} (hW0 : Wf T cn K N I0 R0 d) {a0 : Nat} (ta0 : T a0 = 7) : ConE l mX7_seesNewName [.ref a0] cn K N I0 R0 L0 (ca_i (fun v cn' K' N' I' R' L' => cn = cn' ∧ K = K' ∧ N = N' ∧ R0 = R' ∧ L0 = L' ∧ St T cn K N d wi_X7_seesNewName wr_X7_seesNewName I0 R0 I' R0 ∧ (0 ≤ v.toInt ∧ v.toInt ≤ 1) ∧ True)) := by
  refine ConE.of (by decide +kernel) rfl (Nat.le_of_ble_eq_true rfl) rfl (fun X hX hZ hE => ?_)
  subst hX
  have hS0 : St T cn K N d wi_X7_seesNewName wr_X7_seesNewName I0 R0 I0 R0 := St.rf0 hW0
  refine tr_aload_n dX7_seesNewName_0 rfl ?_
  refine q_callVi hE (M' := mX7_seesName) (as := []) dX7_seesNewName_1 lk7_279 inX7_seesName seX7_seesName myX7_seesName (by decide) ⟨by decide, by decide⟩ rfl (kR7 hS0.1 ta0) (Nat.le_of_ble_eq_true rfl) rfl rfl (by decide) (by decide) (k_X7_seesName hS0.1 ta0) ?_
  rintro v5 cn' K' N' I1 R2 L3 ⟨rfl, rfl, rfl, rfl, rfl, rfl, h6, -⟩
  refine q_if_ne 13 dX7_seesNewName_4 (by decide) (fun h7 => ?_) (fun h7 => ?_)
  · skip
    refine tr_aload_n dX7_seesNewName_13 rfl ?_
    refine q_callVi hE (M' := mX7_isToldCheese) (as := []) dX7_seesNewName_14 lk7_313 inX7_isToldCheese seX7_isToldCheese myX7_isToldCheese (by decide) ⟨by decide, by decide⟩ rfl (kR7 hS0.1 ta0) (Nat.le_of_ble_eq_true rfl) rfl rfl (by decide) (by decide) (k_X7_isToldCheese hS0.1 ta0) ?_
    rintro v12 cn' K' N' I8 R9 L10 ⟨rfl, rfl, rfl, rfl, rfl, rfl, h13, -⟩
    refine q_if_ne 28 dX7_seesNewName_17 (by decide) (fun h14 => ?_) (fun h14 => ?_)
    · skip
      refine tr_aload_n dX7_seesNewName_28 rfl ?_
      refine q_iconst dX7_seesNewName_29 (by decide) ?_
      intro v15 h16
      refine q_callVi hE (M' := mX7_fail) (as := [_]) dX7_seesNewName_30 lk7_64 inX7_fail seX7_fail myX7_fail (by decide) ⟨by decide, by decide⟩ rfl (kR7 hS0.1 ta0) (Nat.le_of_ble_eq_true rfl) rfl rfl (by decide) (by decide) (k_X7_fail hS0.1 ta0) ?_
      rintro v21 cn' K' N' I17 R18 L19 ⟨rfl, rfl, rfl, rfl, rfl, g20, h22, -⟩
      have hS23 := hS0.tr g20 (by decide +kernel) (by decide +kernel)
      refine q_if_eq 40 dX7_seesNewName_33 (by decide) (fun h24 => ?_) (fun h24 => ?_)
      · skip
        refine q_iconst dX7_seesNewName_40 (by decide) ?_
        intro v25 h26
        exact tr_zret hZ dX7_seesNewName_41 rfl (ti_b01 (by omega) (by omega)) (by decide) (by decide) ⟨v25, rfl, rfl, rfl, rfl, rfl, rfl, hS23, (by omega), trivial⟩
      · skip
        exfalso; omega
    · skip
      refine tr_aload_n dX7_seesNewName_20 rfl ?_
      refine q_callVi hE (M' := mX7_namedTurner) (as := []) dX7_seesNewName_21 lk7_282 inX7_namedTurner seX7_namedTurner myX7_namedTurner (by decide) ⟨by decide, by decide⟩ rfl (kR7 hS0.1 ta0) (Nat.le_of_ble_eq_true rfl) rfl rfl (by decide) (by decide) (k_X7_namedTurner hS0.1 ta0) ?_
      rintro v31 cn' K' N' I27 R28 L29 ⟨rfl, rfl, rfl, rfl, rfl, rfl, h32, -⟩
      refine q_iconst dX7_seesNewName_24 (by decide) ?_
      intro v33 h34
      refine q_icmp_eq 36 dX7_seesNewName_25 (by decide) (fun h35 => ?_) (fun h35 => ?_)
      · skip
        refine q_iconst dX7_seesNewName_36 (by decide) ?_
        intro v36 h37
        refine tr_goto 41 dX7_seesNewName_37 (by decide) ?_
        exact tr_zret hZ dX7_seesNewName_41 rfl (ti_b01 (by omega) (by omega)) (by decide) (by decide) ⟨v36, rfl, rfl, rfl, rfl, rfl, rfl, hS0, (by omega), trivial⟩
      · skip
        refine tr_aload_n dX7_seesNewName_28 rfl ?_
        refine q_iconst dX7_seesNewName_29 (by decide) ?_
        intro v38 h39
        refine q_callVi hE (M' := mX7_fail) (as := [_]) dX7_seesNewName_30 lk7_64 inX7_fail seX7_fail myX7_fail (by decide) ⟨by decide, by decide⟩ rfl (kR7 hS0.1 ta0) (Nat.le_of_ble_eq_true rfl) rfl rfl (by decide) (by decide) (k_X7_fail hS0.1 ta0) ?_
        rintro v44 cn' K' N' I40 R41 L42 ⟨rfl, rfl, rfl, rfl, rfl, g43, h45, -⟩
        have hS46 := hS0.tr g43 (by decide +kernel) (by decide +kernel)
        refine q_if_eq 40 dX7_seesNewName_33 (by decide) (fun h47 => ?_) (fun h47 => ?_)
        · skip
          refine q_iconst dX7_seesNewName_40 (by decide) ?_
          intro v48 h49
          exact tr_zret hZ dX7_seesNewName_41 rfl (ti_b01 (by omega) (by omega)) (by decide) (by decide) ⟨v48, rfl, rfl, rfl, rfl, rfl, rfl, hS46, (by omega), trivial⟩
        · skip
          exfalso; omega
  · skip
    refine tr_aload_n dX7_seesNewName_7 rfl ?_
    refine q_iconst dX7_seesNewName_8 (by decide) ?_
    intro v50 h51
    refine q_callVi hE (M' := mX7_fail) (as := [_]) dX7_seesNewName_9 lk7_64 inX7_fail seX7_fail myX7_fail (by decide) ⟨by decide, by decide⟩ rfl (kR7 hS0.1 ta0) (Nat.le_of_ble_eq_true rfl) rfl rfl (by decide) (by decide) (k_X7_fail hS0.1 ta0) ?_
    rintro v56 cn' K' N' I52 R53 L54 ⟨rfl, rfl, rfl, rfl, rfl, g55, h57, -⟩
    have hS58 := hS0.tr g55 (by decide +kernel) (by decide +kernel)
    exact tr_zret hZ dX7_seesNewName_12 rfl (ti_b01 (by omega) (by omega)) (by decide) (by decide) ⟨v56, rfl, rfl, rfl, rfl, rfl, rfl, hS58, (by omega), trivial⟩
def wi_X7_readCheese : List Nat := [133, 135, 450, 451, 452, 454, 455, 463, 464, 1343]
def wr_X7_readCheese : List Nat := []
set_option maxHeartbeats 4000000 in
theorem k_X7_readCheese {l : Launch} {T : Nat → Nat} {cn : Nat} {K N : Nat → Nat} {I0 : cz_I} {R0 : cz_R} {L0 : cz_L} {d : Int} (hW0 : Wf T cn K N I0 R0 d) {a0 : Nat} (ta0 : T a0 = 7) (pre0 : ∀ b1, R0 a0 10 = some b1 → (I0 b1 5).toInt ≤ 7) : ConE l mX7_readCheese [.ref a0] cn K N I0 R0 L0 (ca_i (fun v cn' K' N' I' R' L' => cn = cn' ∧ K = K' ∧ N = N' ∧ R0 = R' ∧ St T cn K N d wi_X7_readCheese wr_X7_readCheese I0 R0 I' R0 ∧ (0 ≤ v.toInt ∧ v.toInt ≤ 1) ∧ True)) := by
  refine ConE.of (by decide +kernel) rfl (Nat.le_of_ble_eq_true rfl) rfl (fun X hX hZ hE => ?_)
  subst hX
  have hS0 : St T cn K N d wi_X7_readCheese wr_X7_readCheese I0 R0 I0 R0 := St.rf0 hW0
  obtain ⟨a1, d2, ta1⟩ := rf7_10 hW0 ta0
  obtain ⟨v3, c4⟩ : ∃ v, I0 a1 5 = v := ⟨_, rfl⟩
  have b5 := iv2_5 hS0.1 ta1 c4
  have p6 := pre0 _ d2
  rw [c4] at p6
  refine tr_aload_n dX7_readCheese_0 rfl ?_
  refine q_callVi hE (M' := mX7_seesNewName) (as := []) dX7_readCheese_1 lk7_231 inX7_seesNewName seX7_seesNewName myX7_seesNewName (by decide) ⟨by decide, by decide⟩ rfl (kR7 hS0.1 ta0) (Nat.le_of_ble_eq_true rfl) rfl rfl (by decide) (by decide) (k_X7_seesNewName hS0.1 ta0) ?_
  rintro v11 cn' K' N' I7 R8 L9 ⟨rfl, rfl, rfl, rfl, rfl, g10, h12, -⟩
  have hS13 := hS0.tr g10 (by decide +kernel) (by decide +kernel)
  have c14 : I7 a1 5 = v3 := (g10.cell ta1 (by decide +kernel)).trans c4
  refine q_if_ne 9 dX7_readCheese_4 (by decide) (fun h15 => ?_) (fun h15 => ?_)
  · skip
    refine tr_aload_n dX7_readCheese_9 rfl ?_
    refine tr_getR dX7_readCheese_10 fl7_22 (kR7 hS13.1 ta0) d2 ?_
    refine q_getI dX7_readCheese_13 fl7_61 (kR2 hS13.1 ta1) c14 ?_
    refine tr_istore_n dX7_readCheese_16 (by decide) (by decide) ?_
    refine tr_aload_n dX7_readCheese_17 rfl ?_
    obtain ⟨a16, d17, ta16⟩ := rf7_13 hW0 ta0
    refine tr_getR dX7_readCheese_18 fl7_9 (kR7 hS13.1 ta0) d17 ?_
    refine tr_iload_n dX7_readCheese_21 rfl ?_
    refine tr_aload_n dX7_readCheese_22 rfl ?_
    refine q_getL dX7_readCheese_23 fl7_78 (kR7 hS13.1 ta0) ?_
    intro y18
    refine q_last dX7_readCheese_26 (kR25 hS13.1 ta16) (ti_in (nR25 hS13.1 ta16) (by omega) (by omega)) ?_
    intro L19
    refine tr_aload_n dX7_readCheese_27 rfl ?_
    refine q_callVv hE (M' := mX7_step) (as := []) dX7_readCheese_28 lk7_51 inX7_step seX7_step myX7_step (by decide) ⟨by decide, by decide⟩ rfl (kR7 hS13.1 ta0) (Nat.le_of_ble_eq_true rfl) rfl rfl (by decide) (by decide) (k_X7_step hS13.1 ta0) ?_
    rintro cn' K' N' I20 R21 L22 ⟨rfl, rfl, rfl, rfl, g23, -⟩
    have hS25 := hS13.tr g23 (by decide +kernel) (by decide +kernel)
    have c26 : I20 a1 5 = v3 := (g23.cell ta1 (by decide +kernel)).trans c14
    refine tr_aload_n dX7_readCheese_31 rfl ?_
    refine tr_ldcS dX7_readCheese_32 ld7_234 ?_
    refine q_callVi hE (M' := mX7_takeWord) (as := [_]) dX7_readCheese_34 lk7_126 inX7_takeWord seX7_takeWord myX7_takeWord (by decide) ⟨by decide, by decide⟩ rfl (kR7 hS25.1 ta0) (Nat.le_of_ble_eq_true rfl) rfl rfl (by decide) (by decide) (k_X7_takeWord hS25.1 ta0 (by decide)) ?_
    rintro v31 cn' K' N' I27 R28 L29 ⟨rfl, rfl, rfl, rfl, g30, h32, -⟩
    have hS33 := hS25.tr g30 (by decide +kernel) (by decide +kernel)
    have c34 : I27 a1 5 = v3 := (g30.cell ta1 (by decide +kernel)).trans c26
    refine q_if_eq 47 dX7_readCheese_37 (by decide) (fun h35 => ?_) (fun h35 => ?_)
    · skip
      refine q_iconst dX7_readCheese_47 (by decide) ?_
      intro v36 h37
      exact tr_zret hZ dX7_readCheese_48 rfl (ti_b01 (by omega) (by omega)) (by decide) (by decide) ⟨v36, rfl, rfl, rfl, rfl, rfl, hS33, (by omega), trivial⟩
    · skip
      refine tr_aload_n dX7_readCheese_40 rfl ?_
      refine q_callVi hE (M' := mX7_takeHut) (as := []) dX7_readCheese_41 lk7_223 inX7_takeHut seX7_takeHut myX7_takeHut (by decide) ⟨by decide, by decide⟩ rfl (kR7 hS33.1 ta0) (Nat.le_of_ble_eq_true rfl) rfl rfl (by decide) (by decide) (k_X7_takeHut hS33.1 ta0) ?_
      rintro v42 cn' K' N' I38 R39 L40 ⟨rfl, rfl, rfl, rfl, g41, h43, -⟩
      have hS44 := hS33.tr g41 (by decide +kernel) (by decide +kernel)
      have c45 : I38 a1 5 = v3 := (g41.cell ta1 (by decide +kernel)).trans c34
      refine q_if_ne 49 dX7_readCheese_44 (by decide) (fun h46 => ?_) (fun h46 => ?_)
      · skip
        refine tr_aload_n dX7_readCheese_49 rfl ?_
        refine tr_getR dX7_readCheese_50 fl7_22 (kR7 hS44.1 ta0) d2 ?_
        obtain ⟨a47, d48, ta47⟩ := rf2_6 hW0 ta1
        refine tr_getR dX7_readCheese_53 fl7_235 (kR2 hS44.1 ta1) d48 ?_
        refine tr_iload_n dX7_readCheese_56 rfl ?_
        refine tr_aload_n dX7_readCheese_57 rfl ?_
        obtain ⟨v49, c50⟩ : ∃ v, I38 a0 7 = v := ⟨_, rfl⟩
        have b51 := iv7_7 hS44.1 ta0 c50
        refine q_getI dX7_readCheese_58 fl7_109 (kR7 hS44.1 ta0) c50 ?_
        refine q_iast dX7_readCheese_61 (kR20 hS44.1 ta47) (ti_in (nR20 hS44.1 ta47) (by omega) (by omega)) hS44 ta47 (iokF rfl) rfl (by rfl) ?_
        intro I52 hS53 e55 f54
        have c56 : I52 a1 5 = v3 := (f54 _ _ (fun q => by have z := ta1; rw [q.1, ta47] at z; exact absurd z (by decide))).trans c45
        have c57 : I52 a0 7 = v49 := (f54 _ _ (fun q => by have z := ta0; rw [q.1, ta47] at z; exact absurd z (by decide))).trans c50
        refine tr_aload_n dX7_readCheese_62 rfl ?_
        refine tr_ldcS dX7_readCheese_63 ld7_238 ?_
        refine q_callVi hE (M' := mX7_seesWord) (as := [_]) dX7_readCheese_65 lk7_101 inX7_seesWord seX7_seesWord myX7_seesWord (by decide) ⟨by decide, by decide⟩ rfl (kR7 hS53.1 ta0) (Nat.le_of_ble_eq_true rfl) rfl rfl (by decide) (by decide) (k_X7_seesWord hS53.1 ta0 (by decide)) ?_
        rintro v62 cn' K' N' I58 R59 L60 ⟨rfl, rfl, rfl, rfl, rfl, rfl, h63, -⟩
        refine q_if_eq 78 dX7_readCheese_68 (by decide) (fun h64 => ?_) (fun h64 => ?_)
        · skip
          refine tr_aload_n dX7_readCheese_78 rfl ?_
          refine tr_getR dX7_readCheese_79 fl7_22 (kR7 hS53.1 ta0) d2 ?_
          refine tr_dup dX7_readCheese_82 rfl ?_
          obtain ⟨v65, c66⟩ : ∃ v, I52 a1 7 = v := ⟨_, rfl⟩
          refine q_getI dX7_readCheese_83 fl7_240 (kR2 hS53.1 ta1) c66 ?_
          refine q_iconst dX7_readCheese_86 (by decide) ?_
          intro v67 h68
          refine tr_iload_n dX7_readCheese_87 rfl ?_
          refine q_ishl dX7_readCheese_88 ?_
          intro v69
          refine q_ior dX7_readCheese_89 ?_
          intro v70
          refine q_putI dX7_readCheese_90 fl7_240 (kR2 hS53.1 ta1) (Or.inl rfl) hS53 ta1 (iokF rfl) rfl (by decide +kernel) ?_
          intro I71 hS72 e73 f74
          have c75 : I71 a1 5 = v3 := (f74 _ _ (fun q => absurd q.2 (by decide))).trans c56
          have c76 : I71 a0 7 = v49 := (f74 _ _ (fun q => by have z := ta0; rw [q.1, ta1] at z; exact absurd z (by decide))).trans c57
          refine tr_aload_n dX7_readCheese_93 rfl ?_
          refine tr_getR dX7_readCheese_94 fl7_22 (kR7 hS72.1 ta0) d2 ?_
          refine tr_dup dX7_readCheese_97 rfl ?_
          refine q_getI dX7_readCheese_98 fl7_61 (kR2 hS72.1 ta1) c75 ?_
          refine q_iconst dX7_readCheese_101 (by decide) ?_
          intro v77 h78
          refine q_iaddE dX7_readCheese_102 (by intros; omega) ?_
          intro v79 h80
          refine q_putI dX7_readCheese_103 fl7_61 (kR2 hS72.1 ta1) (Or.inl rfl) hS72 ta1 (by show (0 : Int) ≤ v79.toInt ∧ v79.toInt ≤ (8 : Int); omega) rfl (by decide +kernel) ?_
          intro I81 hS82 e83 f84
          have c85 : I81 a0 7 = v49 := (f84 _ _ (fun q => absurd q.2 (by decide))).trans c76
          have c86 : I81 a1 7 = v70 := (f84 _ _ (fun q => absurd q.2 (by decide))).trans e73
          refine q_iconst dX7_readCheese_106 (by decide) ?_
          intro v87 h88
          exact tr_zret hZ dX7_readCheese_107 rfl (ti_b01 (by omega) (by omega)) (by decide) (by decide) ⟨v87, rfl, rfl, rfl, rfl, rfl, hS82, (by omega), trivial⟩
        · skip
          refine tr_aload_n dX7_readCheese_71 rfl ?_
          refine q_callVv hE (M' := mX7_step) (as := []) dX7_readCheese_72 lk7_51 inX7_step seX7_step myX7_step (by decide) ⟨by decide, by decide⟩ rfl (kR7 hS53.1 ta0) (Nat.le_of_ble_eq_true rfl) rfl rfl (by decide) (by decide) (k_X7_step hS53.1 ta0) ?_
          rintro cn' K' N' I89 R90 L91 ⟨rfl, rfl, rfl, rfl, g92, -⟩
          have hS94 := hS53.tr g92 (by decide +kernel) (by decide +kernel)
          have c95 : I89 a1 5 = v3 := (g92.cell ta1 (by decide +kernel)).trans c56
          have c96 : I89 a0 7 = v49 := (g92.cell ta0 (by decide +kernel)).trans c57
          refine tr_goto 93 dX7_readCheese_75 (by decide) ?_
          refine tr_aload_n dX7_readCheese_93 rfl ?_
          refine tr_getR dX7_readCheese_94 fl7_22 (kR7 hS94.1 ta0) d2 ?_
          refine tr_dup dX7_readCheese_97 rfl ?_
          refine q_getI dX7_readCheese_98 fl7_61 (kR2 hS94.1 ta1) c95 ?_
          refine q_iconst dX7_readCheese_101 (by decide) ?_
          intro v97 h98
          refine q_iaddE dX7_readCheese_102 (by intros; omega) ?_
          intro v99 h100
          refine q_putI dX7_readCheese_103 fl7_61 (kR2 hS94.1 ta1) (Or.inl rfl) hS94 ta1 (by show (0 : Int) ≤ v99.toInt ∧ v99.toInt ≤ (8 : Int); omega) rfl (by decide +kernel) ?_
          intro I101 hS102 e103 f104
          have c105 : I101 a0 7 = v49 := (f104 _ _ (fun q => absurd q.2 (by decide))).trans c96
          refine q_iconst dX7_readCheese_106 (by decide) ?_
          intro v106 h107
          exact tr_zret hZ dX7_readCheese_107 rfl (ti_b01 (by omega) (by omega)) (by decide) (by decide) ⟨v106, rfl, rfl, rfl, rfl, rfl, hS102, (by omega), trivial⟩
      · skip
        refine q_iconst dX7_readCheese_47 (by decide) ?_
        intro v108 h109
        exact tr_zret hZ dX7_readCheese_48 rfl (ti_b01 (by omega) (by omega)) (by decide) (by decide) ⟨v108, rfl, rfl, rfl, rfl, rfl, hS44, (by omega), trivial⟩
  · skip
    refine q_iconst dX7_readCheese_7 (by decide) ?_
    intro v110 h111
    exact tr_zret hZ dX7_readCheese_8 rfl (ti_b01 (by omega) (by omega)) (by decide) (by decide) ⟨v110, rfl, rfl, rfl, rfl, rfl, hS13, (by omega), trivial⟩
def wi_X7_readMinutes : List Nat := [384, 450, 451, 452, 454, 463, 464, 1599]
def wr_X7_readMinutes : List Nat := []
set_option maxHeartbeats 4000000 in
theorem k_X7_readMinutes {l : Launch} {T : Nat → Nat} {cn : Nat} {K N : Nat → Nat} {I0 : cz_I} {R0 : cz_R} {L0 : cz_L} {d : Int} (hW0 : Wf T cn K N I0 R0 d) {a0 : Nat} (ta0 : T a0 = 7) {a1 : Nat} (ta1 : T a1 = 6) : ConE l mX7_readMinutes [.ref a0, .ref a1] cn K N I0 R0 L0 (ca_i (fun v cn' K' N' I' R' L' => cn = cn' ∧ K = K' ∧ N = N' ∧ R0 = R' ∧ St T cn K N d wi_X7_readMinutes wr_X7_readMinutes I0 R0 I' R0 ∧ (0 ≤ v.toInt ∧ v.toInt ≤ 1) ∧ True)) := by
  refine ConE.of (by decide +kernel) rfl (Nat.le_of_ble_eq_true rfl) rfl (fun X hX hZ hE => ?_)
  subst hX
  have hS0 : St T cn K N d wi_X7_readMinutes wr_X7_readMinutes I0 R0 I0 R0 := St.rf0 hW0
  refine tr_aload_n dX7_readMinutes_0 rfl ?_
  refine q_iconst dX7_readMinutes_1 (by decide) ?_
  intro v1 h2
  refine q_putI dX7_readMinutes_2 fl7_306 (kR6 hS0.1 ta1) (Or.inl rfl) hS0 ta1 (by show (0 : Int) ≤ v1.toInt ∧ v1.toInt ≤ (8 : Int); omega) rfl (by decide +kernel) ?_
  intro I3 hS4 e5 f6
  refine q_iconst dX7_readMinutes_5 (by decide) ?_
  intro v7 h8
  refine tr_istore_n dX7_readMinutes_6 (by decide) (by decide) ?_
  refine q_iconst dX7_readMinutes_7 (by decide) ?_
  intro v9 h10
  refine tr_istore_n dX7_readMinutes_8 (by decide) (by decide) ?_
  have lp27 : ∀ (fu : Nat) (ls : Nat → Option Value) (v11 : Int32) (v12 : Int32) (I17 : cz_I) (L18 : cz_L) (v20 : Int32), ls 0 = some (.ref a0) → ls 1 = some (.ref a1) → ls 2 = some (.int v11) → ls 3 = some (.int v12) → St T cn K N d wi_X7_readMinutes wr_X7_readMinutes I0 R0 I17 R0 → I17 a1 0 = v20 → v20.toInt = v12.toInt → 0 ≤ v11.toInt → v11.toInt ≤ 240 → 0 ≤ v12.toInt → v12.toInt ≤ 8 → (-v12.toInt + 9).toNat < fu → Tr X mX7_readMinutes 9 ls [] cn K N I17 R0 L18 0 0 := by
    intro fu
    induction fu with
    | zero => intros; rename_i hz; exact absurd hz (Nat.not_lt_zero _)
    | succ fu ih27 =>
      intro ls v11 v12 I17 L18 v20 hl13 hl14 hl15 hl16 hS19 c21 g22 g23 g24 g25 g26 hm27
      have b29 := iv6_0 hS19.1 ta1 c21
      refine tr_iload_n dX7_readMinutes_9 hl16 ?_
      refine q_bipush dX7_readMinutes_10 (by decide +kernel) ?_
      intro v30 h31
      refine q_icmp_gt 97 dX7_readMinutes_12 (by decide) (fun h32 => ?_) (fun h32 => ?_)
      · skip
        exfalso; omega
      · skip
        refine tr_aload_n dX7_readMinutes_15 hl13 ?_
        refine tr_iload_n dX7_readMinutes_16 hl15 ?_
        refine tr_aload_n dX7_readMinutes_17 hl13 ?_
        obtain ⟨a33, d34, ta33⟩ := rf7_10 hW0 ta0
        refine tr_getR dX7_readMinutes_18 fl7_22 (kR7 hS19.1 ta0) d34 ?_
        obtain ⟨v35, c36⟩ : ∃ v, I0 a33 0 = v := ⟨_, rfl⟩
        have b37 := iv2_0 hW0 ta33 c36
        refine q_getI dX7_readMinutes_21 fl7_118 (kR2 hS19.1 ta33) ((hS19.cell ta33 (by decide +kernel)).trans c36) ?_
        refine q_iconst dX7_readMinutes_24 (by decide) ?_
        intro v38 h39
        refine q_isubE dX7_readMinutes_25 (by intros; omega) ?_
        intro v40 h41
        obtain ⟨v42, c43⟩ : ∃ v, I17 a0 6 = v := ⟨_, rfl⟩
        refine q_callVi hE (M' := mX7_seesWhole) (as := [_, _]) dX7_readMinutes_26 lk7_105 inX7_seesWhole seX7_seesWhole myX7_seesWhole (by decide) ⟨by decide, by decide⟩ rfl (kR7 hS19.1 ta0) (Nat.le_of_ble_eq_true rfl) rfl rfl (by decide) (by decide) (k_X7_seesWhole hS19.1 ta0) ?_
        rintro v48 cn' K' N' I44 R45 L46 ⟨rfl, rfl, rfl, rfl, rfl, g47, h49, p50, -⟩
        have hS51 := hS19.tr g47 (by decide +kernel) (by decide +kernel)
        have c52 : I44 a1 0 = v20 := (g47.cell ta1 (by decide +kernel)).trans c21
        have c53 : I44 a0 6 = v42 := (g47.cell ta0 (by decide +kernel)).trans c43
        rw [c43] at p50
        refine q_if_ne 34 dX7_readMinutes_29 (by decide) (fun h54 => ?_) (fun h54 => ?_)
        · skip
          refine tr_iload_n dX7_readMinutes_34 hl16 ?_
          refine q_bipush dX7_readMinutes_35 (by decide +kernel) ?_
          intro v55 h56
          refine q_icmp_ne 46 dX7_readMinutes_37 (by decide) (fun h57 => ?_) (fun h57 => ?_)
          · skip
            refine tr_aload_n dX7_readMinutes_46 hl14 ?_
            obtain ⟨a58, d59, ta58⟩ := rf6_1 hW0 ta1
            refine tr_getR dX7_readMinutes_47 fl7_311 (kR6 hS51.1 ta1) d59 ?_
            refine tr_iload_n dX7_readMinutes_50 hl16 ?_
            refine tr_aload_n dX7_readMinutes_51 hl13 ?_
            refine q_getI dX7_readMinutes_52 fl7_86 (kR7 hS51.1 ta0) c53 ?_
            refine q_iast dX7_readMinutes_55 (kR24 hS51.1 ta58) (ti_in (nR24 hS51.1 ta58) (by omega) (by omega)) hS51 ta58 (by show (0 : Int) ≤ v42.toInt ∧ v42.toInt ≤ (239 : Int); omega) rfl (by rfl) ?_
            intro I60 hS61 e63 f62
            have c64 : I60 a1 0 = v20 := (f62 _ _ (fun q => by have z := ta1; rw [q.1, ta58] at z; exact absurd z (by decide))).trans c52
            have c65 : I60 a0 6 = v42 := (f62 _ _ (fun q => by have z := ta0; rw [q.1, ta58] at z; exact absurd z (by decide))).trans c53
            refine tr_aload_n dX7_readMinutes_56 hl14 ?_
            refine tr_dup dX7_readMinutes_57 rfl ?_
            refine q_getI dX7_readMinutes_58 fl7_306 (kR6 hS61.1 ta1) c64 ?_
            refine q_iconst dX7_readMinutes_61 (by decide) ?_
            intro v66 h67
            refine q_iaddE dX7_readMinutes_62 (by intros; omega) ?_
            intro v68 h69
            refine q_putI dX7_readMinutes_63 fl7_306 (kR6 hS61.1 ta1) (Or.inl rfl) hS61 ta1 (by show (0 : Int) ≤ v68.toInt ∧ v68.toInt ≤ (8 : Int); omega) rfl (by decide +kernel) ?_
            intro I70 hS71 e72 f73
            have c74 : I70 a0 6 = v42 := (f73 _ _ (fun q => absurd q.2 (by decide))).trans c65
            refine tr_aload_n dX7_readMinutes_66 hl13 ?_
            refine q_getI dX7_readMinutes_67 fl7_86 (kR7 hS71.1 ta0) c74 ?_
            refine q_iconst dX7_readMinutes_70 (by decide) ?_
            intro v75 h76
            refine q_iaddE dX7_readMinutes_71 (by intros; omega) ?_
            intro v77 h78
            refine tr_istore_n dX7_readMinutes_72 (by decide) (by decide) ?_
            refine tr_aload_n dX7_readMinutes_73 hl13 ?_
            refine q_callVv hE (M' := mX7_step) (as := []) dX7_readMinutes_74 lk7_51 inX7_step seX7_step myX7_step (by decide) ⟨by decide, by decide⟩ rfl (kR7 hS71.1 ta0) (Nat.le_of_ble_eq_true rfl) rfl rfl (by decide) (by decide) (k_X7_step hS71.1 ta0) ?_
            rintro cn' K' N' I79 R80 L81 ⟨rfl, rfl, rfl, rfl, g82, -⟩
            have hS84 := hS71.tr g82 (by decide +kernel) (by decide +kernel)
            have c85 : I79 a1 0 = v68 := (g82.cell ta1 (by decide +kernel)).trans e72
            refine tr_aload_n dX7_readMinutes_77 hl13 ?_
            obtain ⟨v86, c87⟩ : ∃ v, I79 a0 3 = v := ⟨_, rfl⟩
            have b88 := iv7_3 hS84.1 ta0 c87
            refine q_getI dX7_readMinutes_78 fl7_58 (kR7 hS84.1 ta0) c87 ?_
            refine q_iconst dX7_readMinutes_81 (by decide) ?_
            intro v89 h90
            refine q_icmp_eq 87 dX7_readMinutes_82 (by decide) (fun h91 => ?_) (fun h91 => ?_)
            · skip
              refine tr_aload_n dX7_readMinutes_87 hl13 ?_
              refine q_callVv hE (M' := mX7_step) (as := []) dX7_readMinutes_88 lk7_51 inX7_step seX7_step myX7_step (by decide) ⟨by decide, by decide⟩ rfl (kR7 hS84.1 ta0) (Nat.le_of_ble_eq_true rfl) rfl rfl (by decide) (by decide) (k_X7_step hS84.1 ta0) ?_
              rintro cn' K' N' I92 R93 L94 ⟨rfl, rfl, rfl, rfl, g95, -⟩
              have hS97 := hS84.tr g95 (by decide +kernel) (by decide +kernel)
              have c98 : I92 a1 0 = v68 := (g95.cell ta1 (by decide +kernel)).trans c85
              refine q_iincE dX7_readMinutes_91 hl16 (by decide) (by decide) (by intros; omega) ?_
              intro v99 h100
              refine tr_goto 9 dX7_readMinutes_94 (by decide) ?_
              exact ih27 _ v77 v99 I92 L94 v68 hl13 hl14 rfl rfl hS97 c98 (by omega) (by omega) (by omega) (by omega) (by omega) (by omega)
            · skip
              refine q_iconst dX7_readMinutes_85 (by decide) ?_
              intro v101 h102
              exact tr_zret hZ dX7_readMinutes_86 rfl (ti_b01 (by omega) (by omega)) (by decide) (by decide) ⟨v101, rfl, rfl, rfl, rfl, rfl, hS84, (by omega), trivial⟩
          · skip
            refine tr_aload_n dX7_readMinutes_40 hl13 ?_
            refine q_iconst dX7_readMinutes_41 (by decide) ?_
            intro v103 h104
            refine q_callVi hE (M' := mX7_fail) (as := [_]) dX7_readMinutes_42 lk7_64 inX7_fail seX7_fail myX7_fail (by decide) ⟨by decide, by decide⟩ rfl (kR7 hS51.1 ta0) (Nat.le_of_ble_eq_true rfl) rfl rfl (by decide) (by decide) (k_X7_fail hS51.1 ta0) ?_
            rintro v109 cn' K' N' I105 R106 L107 ⟨rfl, rfl, rfl, rfl, rfl, g108, h110, -⟩
            have hS111 := hS51.tr g108 (by decide +kernel) (by decide +kernel)
            have c112 : I105 a1 0 = v20 := (g108.cell ta1 (by decide +kernel)).trans c52
            have c113 : I105 a0 6 = v42 := (g108.cell ta0 (by decide +kernel)).trans c53
            exact tr_zret hZ dX7_readMinutes_45 rfl (ti_b01 (by omega) (by omega)) (by decide) (by decide) ⟨v109, rfl, rfl, rfl, rfl, rfl, hS111, (by omega), trivial⟩
        · skip
          refine q_iconst dX7_readMinutes_32 (by decide) ?_
          intro v114 h115
          exact tr_zret hZ dX7_readMinutes_33 rfl (ti_b01 (by omega) (by omega)) (by decide) (by decide) ⟨v114, rfl, rfl, rfl, rfl, rfl, hS51, (by omega), trivial⟩
  exact lp27 _ _ v7 v9 I3 L0 v1 rfl rfl rfl rfl hS4 e5 (by omega) (by omega) (by omega) (by omega) (by omega) (Nat.lt_succ_self _)
set_option maxHeartbeats 4000000 in
theorem k_X7_turnerKind {l : Launch} {T : Nat → Nat} {cn : Nat} {K N : Nat → Nat} {I0 : cz_I} {R0 : cz_R} {L0 : cz_L} {d : Int} (hW0 : Wf T cn K N I0 R0 d) {a0 : Nat} (ta0 : T a0 = 7) : ConE l mX7_turnerKind [.ref a0] cn K N I0 R0 L0 (ca_i (fun v cn' K' N' I' R' L' => cn = cn' ∧ K = K' ∧ N = N' ∧ I0 = I' ∧ R0 = R' ∧ L0 = L' ∧ ((-1) ≤ v.toInt ∧ v.toInt ≤ 3) ∧ True)) := by
  refine ConE.of (by decide +kernel) rfl (Nat.le_of_ble_eq_true rfl) rfl (fun X hX hZ hE => ?_)
  subst hX
  refine tr_aload_n dX7_turnerKind_0 rfl ?_
  refine tr_ldcwS dX7_turnerKind_1 ld7_268 ?_
  refine q_callVi hE (M' := mX7_seesWord) (as := [_]) dX7_turnerKind_4 lk7_101 inX7_seesWord seX7_seesWord myX7_seesWord (by decide) ⟨by decide, by decide⟩ rfl (kR7 hW0 ta0) (Nat.le_of_ble_eq_true rfl) rfl rfl (by decide) (by decide) (k_X7_seesWord hW0 ta0 (by decide)) ?_
  rintro v5 cn' K' N' I1 R2 L3 ⟨rfl, rfl, rfl, rfl, rfl, rfl, h6, -⟩
  refine q_if_eq 12 dX7_turnerKind_7 (by decide) (fun h7 => ?_) (fun h7 => ?_)
  · skip
    refine tr_aload_n dX7_turnerKind_12 rfl ?_
    refine tr_ldcwS dX7_turnerKind_13 ld7_270 ?_
    refine q_callVi hE (M' := mX7_seesWord) (as := [_]) dX7_turnerKind_16 lk7_101 inX7_seesWord seX7_seesWord myX7_seesWord (by decide) ⟨by decide, by decide⟩ rfl (kR7 hW0 ta0) (Nat.le_of_ble_eq_true rfl) rfl rfl (by decide) (by decide) (k_X7_seesWord hW0 ta0 (by decide)) ?_
    rintro v12 cn' K' N' I8 R9 L10 ⟨rfl, rfl, rfl, rfl, rfl, rfl, h13, -⟩
    refine q_if_eq 24 dX7_turnerKind_19 (by decide) (fun h14 => ?_) (fun h14 => ?_)
    · skip
      refine tr_aload_n dX7_turnerKind_24 rfl ?_
      refine tr_ldcwS dX7_turnerKind_25 ld7_272 ?_
      refine q_callVi hE (M' := mX7_seesWord) (as := [_]) dX7_turnerKind_28 lk7_101 inX7_seesWord seX7_seesWord myX7_seesWord (by decide) ⟨by decide, by decide⟩ rfl (kR7 hW0 ta0) (Nat.le_of_ble_eq_true rfl) rfl rfl (by decide) (by decide) (k_X7_seesWord hW0 ta0 (by decide)) ?_
      rintro v19 cn' K' N' I15 R16 L17 ⟨rfl, rfl, rfl, rfl, rfl, rfl, h20, -⟩
      refine q_if_eq 36 dX7_turnerKind_31 (by decide) (fun h21 => ?_) (fun h21 => ?_)
      · skip
        refine tr_aload_n dX7_turnerKind_36 rfl ?_
        refine tr_ldcS dX7_turnerKind_37 ld7_143 ?_
        refine q_callVi hE (M' := mX7_seesWord) (as := [_]) dX7_turnerKind_39 lk7_101 inX7_seesWord seX7_seesWord myX7_seesWord (by decide) ⟨by decide, by decide⟩ rfl (kR7 hW0 ta0) (Nat.le_of_ble_eq_true rfl) rfl rfl (by decide) (by decide) (k_X7_seesWord hW0 ta0 (by decide)) ?_
        rintro v26 cn' K' N' I22 R23 L24 ⟨rfl, rfl, rfl, rfl, rfl, rfl, h27, -⟩
        refine q_if_eq 49 dX7_turnerKind_42 (by decide) (fun h28 => ?_) (fun h28 => ?_)
        · skip
          refine q_iconst dX7_turnerKind_49 (by decide) ?_
          intro v29 h30
          exact tr_iret hZ dX7_turnerKind_50 rfl (by decide) (by decide) ⟨v29, rfl, rfl, rfl, rfl, rfl, rfl, rfl, (by omega), trivial⟩
        · skip
          refine q_iconst dX7_turnerKind_45 (by decide) ?_
          intro v31 h32
          refine tr_goto 50 dX7_turnerKind_46 (by decide) ?_
          exact tr_iret hZ dX7_turnerKind_50 rfl (by decide) (by decide) ⟨v31, rfl, rfl, rfl, rfl, rfl, rfl, rfl, (by omega), trivial⟩
      · skip
        refine q_iconst dX7_turnerKind_34 (by decide) ?_
        intro v33 h34
        exact tr_iret hZ dX7_turnerKind_35 rfl (by decide) (by decide) ⟨v33, rfl, rfl, rfl, rfl, rfl, rfl, rfl, (by omega), trivial⟩
    · skip
      refine q_iconst dX7_turnerKind_22 (by decide) ?_
      intro v35 h36
      exact tr_iret hZ dX7_turnerKind_23 rfl (by decide) (by decide) ⟨v35, rfl, rfl, rfl, rfl, rfl, rfl, rfl, (by omega), trivial⟩
  · skip
    refine q_iconst dX7_turnerKind_10 (by decide) ?_
    intro v37 h38
    exact tr_iret hZ dX7_turnerKind_11 rfl (by decide) (by decide) ⟨v37, rfl, rfl, rfl, rfl, rfl, rfl, rfl, (by omega), trivial⟩
set_option maxHeartbeats 4000000 in
theorem k_X10_bit {l : Launch} {T : Nat → Nat} {cn : Nat} {K N : Nat → Nat} {I0 : cz_I} {R0 : cz_R} {L0 : cz_L} {d : Int} (hW0 : Wf T cn K N I0 R0 d) {x0 : Int32} {x1 : Int32} : ConE l mX10_bit [.int x0, .int x1] cn K N I0 R0 L0 (ca_i (fun v cn' K' N' I' R' L' => cn = cn' ∧ K = K' ∧ N = N' ∧ I0 = I' ∧ R0 = R' ∧ L0 = L' ∧ True)) := by
  refine ConE.of (by decide +kernel) rfl (Nat.le_of_ble_eq_true rfl) rfl (fun X hX hZ hE => ?_)
  subst hX
  refine tr_iload_n dX10_bit_0 rfl ?_
  refine tr_iload_n dX10_bit_1 rfl ?_
  refine q_iushr dX10_bit_2 ?_
  intro v1
  refine q_iconst dX10_bit_3 (by decide) ?_
  intro v2 h3
  refine q_iand dX10_bit_4 ?_
  intro v4
  exact tr_iret hZ dX10_bit_5 rfl (by decide) (by decide) ⟨v4, rfl, rfl, rfl, rfl, rfl, rfl, rfl, trivial⟩
