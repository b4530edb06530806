def wik_X0_clear : List Nat := [128, 129, 131, 133, 135, 137, 139, 141, 384]
def wrk_X0_clear : List Nat := []
set_option maxHeartbeats 4000000 in
theorem fk_X0_clear {l : Launch} {T : Nat → Nat} {cn : Nat} {K N : Nat → Nat} {I0 : cz_I} {R0 : cz_R} {L0 : cz_L} {d : Int} (hW0 : Wf T cn K N I0 R0 d)  {a0 : Nat} (ta0 : T a0 = 2) : ConE l mX0_clear [.ref a0] cn K N I0 R0 L0 (ca_v (fun cn' K' N' I' R' L' => cn = cn' ∧ K = K' ∧ N = N' ∧ R0 = R' ∧ L0 = L' ∧ St T cn K N d wik_X0_clear wrk_X0_clear I0 R0 I' R0 ∧ ((I' a0 0).toInt = 0) ∧ ((I' a0 1).toInt = 0) ∧ ((I' a0 3).toInt = 0) ∧ ((I' a0 5).toInt = 0) ∧ ((I' a0 9).toInt = 0) ∧ ((I' a0 11).toInt = 0) ∧ ((I' a0 13).toInt = 0) ∧ (FrO 2 a0 T I0 I') ∧ True)) := by
  refine ConE.of (by decide +kernel) rfl (Nat.le_of_ble_eq_true rfl) rfl (fun X hX hZ hE => ?_)
  subst hX
  have hS0 : St T cn K N d wik_X0_clear wrk_X0_clear I0 R0 I0 R0 := St.rf0 hW0
  have hO0 : FrO 2 a0 T I0 I0 := FrO.rf
  refine tr_aload_n dX0_clear_0 rfl ?_
  refine q_iconst dX0_clear_1 (by decide) ?_
  intro v1 h2
  refine q_putI dX0_clear_2 fl0_50 (kR2 hS0.1 ta0) (Or.inl rfl) hS0 ta0 (by show (0 : Int) ≤ v1.toInt ∧ v1.toInt ≤ (240 : Int); exact om_9ed8f7f4 h2) rfl (by decide +kernel) ?_
  intro I3 hS4 e5 f6
  have hO7 : FrO 2 a0 T I0 I3 := hO0.put f6 ta0 (Or.inr rfl)
  refine tr_aload_n dX0_clear_5 rfl ?_
  refine q_iconst dX0_clear_6 (by decide) ?_
  intro v8 h9
  refine q_putI dX0_clear_7 fl0_54 (kR2 hS4.1 ta0) (Or.inl rfl) hS4 ta0 (by show (0 : Int) ≤ v8.toInt ∧ v8.toInt ≤ (4 : Int); exact om_e8b39ab5 h9) rfl (by decide +kernel) ?_
  intro I10 hS11 e12 f13
  have c14 : I10 a0 0 = v1 := (f13 _ _ (fun q => absurd q.2 (by decide))).trans e5
  have hO15 : FrO 2 a0 T I0 I10 := hO7.put f13 ta0 (Or.inr rfl)
  refine tr_aload_n dX0_clear_10 rfl ?_
  refine q_iconst dX0_clear_11 (by decide) ?_
  intro v16 h17
  refine q_putI dX0_clear_12 fl0_57 (kR2 hS11.1 ta0) (Or.inl rfl) hS11 ta0 (by show (0 : Int) ≤ v16.toInt ∧ v16.toInt ≤ (14 : Int); exact om_5db07cd6 h17) rfl (by decide +kernel) ?_
  intro I18 hS19 e20 f21
  have c22 : I18 a0 0 = v1 := (f21 _ _ (fun q => absurd q.2 (by decide))).trans c14
  have c23 : I18 a0 1 = v8 := (f21 _ _ (fun q => absurd q.2 (by decide))).trans e12
  have hO24 : FrO 2 a0 T I0 I18 := hO15.put f21 ta0 (Or.inr rfl)
  refine tr_aload_n dX0_clear_15 rfl ?_
  refine q_iconst dX0_clear_16 (by decide) ?_
  intro v25 h26
  refine q_putI dX0_clear_17 fl0_60 (kR2 hS19.1 ta0) (Or.inl rfl) hS19 ta0 (by show (0 : Int) ≤ v25.toInt ∧ v25.toInt ≤ (8 : Int); exact om_7d21acc5 h26) rfl (by decide +kernel) ?_
  intro I27 hS28 e29 f30
  have c31 : I27 a0 0 = v1 := (f30 _ _ (fun q => absurd q.2 (by decide))).trans c22
  have c32 : I27 a0 1 = v8 := (f30 _ _ (fun q => absurd q.2 (by decide))).trans c23
  have c33 : I27 a0 3 = v16 := (f30 _ _ (fun q => absurd q.2 (by decide))).trans e20
  have hO34 : FrO 2 a0 T I0 I27 := hO24.put f30 ta0 (Or.inr rfl)
  refine tr_aload_n dX0_clear_20 rfl ?_
  refine q_iconst dX0_clear_21 (by decide) ?_
  intro v35 h36
  refine q_putI dX0_clear_22 fl0_63 (kR2 hS28.1 ta0) (Or.inl rfl) hS28 ta0 (iokF rfl) rfl (by decide +kernel) ?_
  intro I37 hS38 e39 f40
  have c41 : I37 a0 0 = v1 := (f40 _ _ (fun q => absurd q.2 (by decide))).trans c31
  have c42 : I37 a0 1 = v8 := (f40 _ _ (fun q => absurd q.2 (by decide))).trans c32
  have c43 : I37 a0 3 = v16 := (f40 _ _ (fun q => absurd q.2 (by decide))).trans c33
  have c44 : I37 a0 5 = v25 := (f40 _ _ (fun q => absurd q.2 (by decide))).trans e29
  have hO45 : FrO 2 a0 T I0 I37 := hO34.put f40 ta0 (Or.inr rfl)
  refine tr_aload_n dX0_clear_25 rfl ?_
  obtain ⟨a46, d47, ta46⟩ := rf2_8 hW0 ta0
  refine tr_getR dX0_clear_26 fl0_27 (kR2 hS38.1 ta0) d47 ?_
  refine q_iconst dX0_clear_29 (by decide) ?_
  intro v48 h49
  refine q_putI dX0_clear_30 fl0_66 (kR6 hS38.1 ta46) (Or.inl rfl) hS38 ta46 (by show (0 : Int) ≤ v48.toInt ∧ v48.toInt ≤ (8 : Int); exact om_7d21acc5 h49) rfl (by decide +kernel) ?_
  intro I50 hS51 e52 f53
  have c54 : I50 a0 0 = v1 := (f53 _ _ (fun q => by have z := ta0; rw [q.1, ta46] at z; exact absurd z (by decide))).trans c41
  have c55 : I50 a0 1 = v8 := (f53 _ _ (fun q => absurd q.2 (by decide))).trans c42
  have c56 : I50 a0 3 = v16 := (f53 _ _ (fun q => absurd q.2 (by decide))).trans c43
  have c57 : I50 a0 5 = v25 := (f53 _ _ (fun q => absurd q.2 (by decide))).trans c44
  have c58 : I50 a0 7 = v35 := (f53 _ _ (fun q => absurd q.2 (by decide))).trans e39
  have hO59 : FrO 2 a0 T I0 I50 := hO45.put f53 ta46 (Or.inl (by decide))
  refine tr_aload_n dX0_clear_33 rfl ?_
  refine q_iconst dX0_clear_34 (by decide) ?_
  intro v60 h61
  refine q_putI dX0_clear_35 fl0_69 (kR2 hS51.1 ta0) (Or.inl rfl) hS51 ta0 (by show (0 : Int) ≤ v60.toInt ∧ v60.toInt ≤ (5 : Int); exact om_3597b99b h61) rfl (by decide +kernel) ?_
  intro I62 hS63 e64 f65
  have c66 : I62 a0 0 = v1 := (f65 _ _ (fun q => absurd q.2 (by decide))).trans c54
  have c67 : I62 a0 1 = v8 := (f65 _ _ (fun q => absurd q.2 (by decide))).trans c55
  have c68 : I62 a0 3 = v16 := (f65 _ _ (fun q => absurd q.2 (by decide))).trans c56
  have c69 : I62 a0 5 = v25 := (f65 _ _ (fun q => absurd q.2 (by decide))).trans c57
  have c70 : I62 a0 7 = v35 := (f65 _ _ (fun q => absurd q.2 (by decide))).trans c58
  have c71 : I62 a46 0 = v48 := (f65 _ _ (fun q => absurd q.2 (by decide))).trans e52
  have hO72 : FrO 2 a0 T I0 I62 := hO59.put f65 ta0 (Or.inr rfl)
  refine tr_aload_n dX0_clear_38 rfl ?_
  refine q_iconst dX0_clear_39 (by decide) ?_
  intro v73 h74
  refine q_putI dX0_clear_40 fl0_72 (kR2 hS63.1 ta0) (Or.inl rfl) hS63 ta0 (by show (0 : Int) ≤ v73.toInt ∧ v73.toInt ≤ (6 : Int); exact om_a3bde316 h74) rfl (by decide +kernel) ?_
  intro I75 hS76 e77 f78
  have c79 : I75 a0 0 = v1 := (f78 _ _ (fun q => absurd q.2 (by decide))).trans c66
  have c80 : I75 a0 1 = v8 := (f78 _ _ (fun q => absurd q.2 (by decide))).trans c67
  have c81 : I75 a0 3 = v16 := (f78 _ _ (fun q => absurd q.2 (by decide))).trans c68
  have c82 : I75 a0 5 = v25 := (f78 _ _ (fun q => absurd q.2 (by decide))).trans c69
  have c83 : I75 a0 7 = v35 := (f78 _ _ (fun q => absurd q.2 (by decide))).trans c70
  have c84 : I75 a46 0 = v48 := (f78 _ _ (fun q => absurd q.2 (by decide))).trans c71
  have c85 : I75 a0 9 = v60 := (f78 _ _ (fun q => absurd q.2 (by decide))).trans e64
  have hO86 : FrO 2 a0 T I0 I75 := hO72.put f78 ta0 (Or.inr rfl)
  refine tr_aload_n dX0_clear_43 rfl ?_
  refine q_iconst dX0_clear_44 (by decide) ?_
  intro v87 h88
  refine q_putI dX0_clear_45 fl0_75 (kR2 hS76.1 ta0) (Or.inl rfl) hS76 ta0 (by show (0 : Int) ≤ v87.toInt ∧ v87.toInt ≤ (4 : Int); exact om_e8b39ab5 h88) rfl (by decide +kernel) ?_
  intro I89 hS90 e91 f92
  have c93 : I89 a0 0 = v1 := (f92 _ _ (fun q => absurd q.2 (by decide))).trans c79
  have c94 : I89 a0 1 = v8 := (f92 _ _ (fun q => absurd q.2 (by decide))).trans c80
  have c95 : I89 a0 3 = v16 := (f92 _ _ (fun q => absurd q.2 (by decide))).trans c81
  have c96 : I89 a0 5 = v25 := (f92 _ _ (fun q => absurd q.2 (by decide))).trans c82
  have c97 : I89 a0 7 = v35 := (f92 _ _ (fun q => absurd q.2 (by decide))).trans c83
  have c98 : I89 a46 0 = v48 := (f92 _ _ (fun q => absurd q.2 (by decide))).trans c84
  have c99 : I89 a0 9 = v60 := (f92 _ _ (fun q => absurd q.2 (by decide))).trans c85
  have c100 : I89 a0 11 = v73 := (f92 _ _ (fun q => absurd q.2 (by decide))).trans e77
  have hO101 : FrO 2 a0 T I0 I89 := hO86.put f92 ta0 (Or.inr rfl)
  exact tr_vret hZ dX0_clear_48 rfl (by decide) (by decide) ⟨rfl, rfl, rfl, rfl, rfl, rfl, hS90, (by (try rw [c93]); first | done | with_reducible assumption | omega), (by (try rw [c94]); first | done | with_reducible assumption | omega), (by (try rw [c95]); first | done | with_reducible assumption | omega), (by (try rw [c96]); first | done | with_reducible assumption | omega), (by (try rw [c99]); first | done | with_reducible assumption | omega), (by (try rw [c100]); first | done | with_reducible assumption | omega), (by (try rw [e91]); first | done | with_reducible assumption | omega), hO101, trivial⟩
def wik_X7_readAll : List Nat := [128, 129, 131, 133, 135, 137, 139, 141, 192, 193, 194, 195, 256, 257, 258, 259, 260, 261, 320, 321, 322, 323, 384, 449, 450, 451, 452, 454, 455, 456, 457, 459, 460, 463, 464, 1215, 1343, 1599]
def wrk_X7_readAll : List Nat := [458]
def wlk_X7_readAll : List Nat := [453, 1663, 1727]
set_option maxHeartbeats 4000000 in
theorem fk_X7_readAll {l : Launch} {T : Nat → Nat} {cn : Nat} {K N : Nat → Nat} {I0 : cz_I} {R0 : cz_R} {L0 : cz_L} {d : Int} (hW0 : Wf T cn K N I0 R0 d) (gB : cz_B) {a0 : Nat} (ta0 : T a0 = 7) {a1 : Nat} (ta1 : T a1 = 2) {x2 : Int32} (hx2 : 0 ≤ x2.toInt ∧ x2.toInt ≤ 900) (hT : ∀ t, R0 a0 0 = some t → Tx I0 t gB) (pre0 : x2.toInt = (gB.2)) : ConE l mX7_readAll [.ref a0, .ref a1, .int x2] cn K N I0 R0 L0 (ca_i (fun v cn' K' N' I' R' L' => cn = cn' ∧ K = K' ∧ N = N' ∧ St T cn K N d wik_X7_readAll wrk_X7_readAll I0 R0 I' R' ∧ LgS T wlk_X7_readAll L0 L' ∧ (0 ≤ v.toInt ∧ v.toInt ≤ 1) ∧ (FrO 2 a1 T I0 I') ∧ (((v.toInt = 1) ∧ ((lsF gB 901 0 Q00) = 0) ∧ ((I' a0 15).toInt = 0) ∧ ((I' a1 5).toInt = (lsC gB 901 0 Q00)) ∧ ((I' a1 0).toInt = (lsA0 gB 901 0 Q00)) ∧ ((I' a1 11).toInt = (lsA5 gB 901 0 Q00)) ∧ True) ∨ ((v.toInt = 0) ∧ ((lsF gB 901 0 Q00) ≠ 0) ∧ ((I' a0 15).toInt = (lsF gB 901 0 Q00)) ∧ ((I' a0 16).toInt = (lsP gB 901 0 Q00)) ∧ True)) ∧ True)) := by
  refine ConE.of (by decide +kernel) rfl (Nat.le_of_ble_eq_true rfl) rfl (fun X hX hZ hE => ?_)
  subst hX
  have hS0 : St T cn K N d wik_X7_readAll wrk_X7_readAll I0 R0 I0 R0 := St.rf0 hW0
  have hL0 : LgS T wlk_X7_readAll L0 L0 := LgS.rf0
  have p1 := pre0
  have hO0 : FrO 2 a1 T I0 I0 := FrO.rf
  refine tr_aload_n dX7_readAll_0 rfl ?_
  refine tr_aload_n dX7_readAll_1 rfl ?_
  refine q_putR dX7_readAll_2 fl7_22 (kR7 hS0.1 ta0) (Or.inl rfl) hS0 ta0 (okR_in rfl rfl ta1) rfl (by decide +kernel) ?_
  intro R2 hS3 e4 f5
  refine tr_aload_n dX7_readAll_5 rfl ?_
  refine tr_getR dX7_readAll_6 fl7_22 (kR7 hS3.1 ta0) e4 ?_
  refine q_callVv hE (M' := mX0_clear) (as := []) dX7_readAll_9 lk7_26 inX0_clear seX0_clear myX0_clear (by decide) ⟨by decide, by decide⟩ rfl (kR2 hS3.1 ta1) (Nat.le_of_ble_eq_true rfl) rfl rfl (by decide) (by decide) (fk_X0_clear hS3.1  ta1) ?_
  rintro cn' K' N' I6 R7 L8 ⟨rfl, rfl, rfl, rfl, rfl, g9, p12, p13, p14, p15, p16, p17, p18, rp19, -⟩
  have hS20 := hS3.tr g9 (by decide +kernel) (by decide +kernel)
  have hO21 : FrO 2 a1 T I0 I6 := hO0.tr rp19
  obtain ⟨v22, c23⟩ : ∃ v, I6 a1 0 = v := ⟨_, rfl⟩
  have b24 := iv2_0 hS20.1 ta1 c23
  rw [c23] at p12
  obtain ⟨v25, c26⟩ : ∃ v, I6 a1 1 = v := ⟨_, rfl⟩
  have b27 := iv2_1 hS20.1 ta1 c26
  rw [c26] at p13
  obtain ⟨v28, c29⟩ : ∃ v, I6 a1 3 = v := ⟨_, rfl⟩
  have b30 := iv2_3 hS20.1 ta1 c29
  rw [c29] at p14
  obtain ⟨v31, c32⟩ : ∃ v, I6 a1 5 = v := ⟨_, rfl⟩
  have b33 := iv2_5 hS20.1 ta1 c32
  rw [c32] at p15
  obtain ⟨v34, c35⟩ : ∃ v, I6 a1 9 = v := ⟨_, rfl⟩
  have b36 := iv2_9 hS20.1 ta1 c35
  rw [c35] at p16
  obtain ⟨v37, c38⟩ : ∃ v, I6 a1 11 = v := ⟨_, rfl⟩
  have b39 := iv2_11 hS20.1 ta1 c38
  rw [c38] at p17
  obtain ⟨v40, c41⟩ : ∃ v, I6 a1 13 = v := ⟨_, rfl⟩
  have b42 := iv2_13 hS20.1 ta1 c41
  rw [c41] at p18
  refine tr_aload_n dX7_readAll_12 rfl ?_
  refine q_iconst dX7_readAll_13 (by decide) ?_
  intro v43 h44
  refine q_putZ dX7_readAll_14 fl7_31 (kR7 hS20.1 ta0) (Or.inl rfl) hS20 ta0 (by exact om_3b50ecb9 h44) (by show (0 : Int) ≤ v43.toInt ∧ v43.toInt ≤ (1 : Int); exact om_3b50ecb9 h44) rfl (by decide +kernel) ?_
  intro I45 hS46 e47 f48
  have c49 : I45 a1 0 = v22 := (f48 _ _ (fun q => absurd q.2 (by decide))).trans c23
  have c50 : I45 a1 1 = v25 := (f48 _ _ (fun q => absurd q.2 (by decide))).trans c26
  have c51 : I45 a1 3 = v28 := (f48 _ _ (fun q => absurd q.2 (by decide))).trans c29
  have c52 : I45 a1 5 = v31 := (f48 _ _ (fun q => absurd q.2 (by decide))).trans c32
  have c53 : I45 a1 9 = v34 := (f48 _ _ (fun q => absurd q.2 (by decide))).trans c35
  have c54 : I45 a1 11 = v37 := (f48 _ _ (fun q => by have z := ta1; rw [q.1, ta0] at z; exact absurd z (by decide))).trans c38
  have c55 : I45 a1 13 = v40 := (f48 _ _ (fun q => absurd q.2 (by decide))).trans c41
  have hO56 : FrO 2 a1 T I0 I45 := hO21.put f48 ta0 (Or.inl (by decide))
  refine tr_aload_n dX7_readAll_17 rfl ?_
  refine q_iconst dX7_readAll_18 (by decide) ?_
  intro v57 h58
  refine q_putZ dX7_readAll_19 fl7_35 (kR7 hS46.1 ta0) (Or.inl rfl) hS46 ta0 (by exact om_3b50ecb9 h58) (by show (0 : Int) ≤ v57.toInt ∧ v57.toInt ≤ (1 : Int); exact om_3b50ecb9 h58) rfl (by decide +kernel) ?_
  intro I59 hS60 e61 f62
  have c63 : I59 a1 0 = v22 := (f62 _ _ (fun q => absurd q.2 (by decide))).trans c49
  have c64 : I59 a1 1 = v25 := (f62 _ _ (fun q => absurd q.2 (by decide))).trans c50
  have c65 : I59 a1 3 = v28 := (f62 _ _ (fun q => absurd q.2 (by decide))).trans c51
  have c66 : I59 a1 5 = v31 := (f62 _ _ (fun q => absurd q.2 (by decide))).trans c52
  have c67 : I59 a1 9 = v34 := (f62 _ _ (fun q => absurd q.2 (by decide))).trans c53
  have c68 : I59 a1 11 = v37 := (f62 _ _ (fun q => absurd q.2 (by decide))).trans c54
  have c69 : I59 a1 13 = v40 := (f62 _ _ (fun q => absurd q.2 (by decide))).trans c55
  have c70 : I59 a0 11 = v43 := (f62 _ _ (fun q => absurd q.2 (by decide))).trans e47
  have hO71 : FrO 2 a1 T I0 I59 := hO56.put f62 ta0 (Or.inl (by decide))
  refine tr_aload_n dX7_readAll_22 rfl ?_
  refine q_iconst dX7_readAll_23 (by decide) ?_
  intro v72 h73
  refine q_putI dX7_readAll_24 fl7_38 (kR7 hS60.1 ta0) (Or.inl rfl) hS60 ta0 (iokF rfl) rfl (by decide +kernel) ?_
  intro I74 hS75 e76 f77
  have c78 : I74 a1 0 = v22 := (f77 _ _ (fun q => absurd q.2 (by decide))).trans c63
  have c79 : I74 a1 1 = v25 := (f77 _ _ (fun q => absurd q.2 (by decide))).trans c64
  have c80 : I74 a1 3 = v28 := (f77 _ _ (fun q => absurd q.2 (by decide))).trans c65
  have c81 : I74 a1 5 = v31 := (f77 _ _ (fun q => absurd q.2 (by decide))).trans c66
  have c82 : I74 a1 9 = v34 := (f77 _ _ (fun q => absurd q.2 (by decide))).trans c67
  have c83 : I74 a1 11 = v37 := (f77 _ _ (fun q => absurd q.2 (by decide))).trans c68
  have c84 : I74 a1 13 = v40 := (f77 _ _ (fun q => absurd q.2 (by decide))).trans c69
  have c85 : I74 a0 11 = v43 := (f77 _ _ (fun q => absurd q.2 (by decide))).trans c70
  have c86 : I74 a0 12 = v57 := (f77 _ _ (fun q => absurd q.2 (by decide))).trans e61
  have hO87 : FrO 2 a1 T I0 I74 := hO71.put f77 ta0 (Or.inl (by decide))
  refine tr_aload_n dX7_readAll_27 rfl ?_
  refine q_iconst dX7_readAll_28 (by decide) ?_
  intro v88 h89
  refine q_putI dX7_readAll_29 fl7_42 (kR7 hS75.1 ta0) (Or.inl rfl) hS75 ta0 (iokF rfl) rfl (by decide +kernel) ?_
  intro I90 hS91 e92 f93
  have c94 : I90 a1 0 = v22 := (f93 _ _ (fun q => absurd q.2 (by decide))).trans c78
  have c95 : I90 a1 1 = v25 := (f93 _ _ (fun q => absurd q.2 (by decide))).trans c79
  have c96 : I90 a1 3 = v28 := (f93 _ _ (fun q => absurd q.2 (by decide))).trans c80
  have c97 : I90 a1 5 = v31 := (f93 _ _ (fun q => absurd q.2 (by decide))).trans c81
  have c98 : I90 a1 9 = v34 := (f93 _ _ (fun q => absurd q.2 (by decide))).trans c82
  have c99 : I90 a1 11 = v37 := (f93 _ _ (fun q => absurd q.2 (by decide))).trans c83
  have c100 : I90 a1 13 = v40 := (f93 _ _ (fun q => absurd q.2 (by decide))).trans c84
  have c101 : I90 a0 11 = v43 := (f93 _ _ (fun q => absurd q.2 (by decide))).trans c85
  have c102 : I90 a0 12 = v57 := (f93 _ _ (fun q => absurd q.2 (by decide))).trans c86
  have c103 : I90 a0 15 = v72 := (f93 _ _ (fun q => absurd q.2 (by decide))).trans e76
  have hO104 : FrO 2 a1 T I0 I90 := hO87.put f93 ta0 (Or.inl (by decide))
  refine tr_aload_n dX7_readAll_32 rfl ?_
  refine tr_iload_n dX7_readAll_33 rfl ?_
  refine q_putI dX7_readAll_34 fl7_45 (kR7 hS91.1 ta0) (Or.inl rfl) hS91 ta0 (by show (0 : Int) ≤ x2.toInt ∧ x2.toInt ≤ (900 : Int); exact om_7caca98d hx2) rfl (by decide +kernel) ?_
  intro I105 hS106 e107 f108
  have c109 : I105 a1 0 = v22 := (f108 _ _ (fun q => absurd q.2 (by decide))).trans c94
  have c110 : I105 a1 1 = v25 := (f108 _ _ (fun q => by have z := ta1; rw [q.1, ta0] at z; exact absurd z (by decide))).trans c95
  have c111 : I105 a1 3 = v28 := (f108 _ _ (fun q => absurd q.2 (by decide))).trans c96
  have c112 : I105 a1 5 = v31 := (f108 _ _ (fun q => absurd q.2 (by decide))).trans c97
  have c113 : I105 a1 9 = v34 := (f108 _ _ (fun q => absurd q.2 (by decide))).trans c98
  have c114 : I105 a1 11 = v37 := (f108 _ _ (fun q => absurd q.2 (by decide))).trans c99
  have c115 : I105 a1 13 = v40 := (f108 _ _ (fun q => absurd q.2 (by decide))).trans c100
  have c116 : I105 a0 11 = v43 := (f108 _ _ (fun q => absurd q.2 (by decide))).trans c101
  have c117 : I105 a0 12 = v57 := (f108 _ _ (fun q => absurd q.2 (by decide))).trans c102
  have c118 : I105 a0 15 = v72 := (f108 _ _ (fun q => absurd q.2 (by decide))).trans c103
  have c119 : I105 a0 16 = v88 := (f108 _ _ (fun q => absurd q.2 (by decide))).trans e92
  have hO120 : FrO 2 a1 T I0 I105 := hO104.put f108 ta0 (Or.inl (by decide))
  refine tr_aload_n dX7_readAll_37 rfl ?_
  refine q_iconst dX7_readAll_38 (by decide) ?_
  intro v121 h122
  refine q_putI dX7_readAll_39 fl7_48 (kR7 hS106.1 ta0) (Or.inl rfl) hS106 ta0 (by show (0 : Int) ≤ v121.toInt ∧ v121.toInt ≤ (900 : Int); exact om_d84473bb h122) rfl (by decide +kernel) ?_
  intro I123 hS124 e125 f126
  have c127 : I123 a1 0 = v22 := (f126 _ _ (fun q => absurd q.2 (by decide))).trans c109
  have c128 : I123 a1 1 = v25 := (f126 _ _ (fun q => absurd q.2 (by decide))).trans c110
  have c129 : I123 a1 3 = v28 := (f126 _ _ (fun q => absurd q.2 (by decide))).trans c111
  have c130 : I123 a1 5 = v31 := (f126 _ _ (fun q => absurd q.2 (by decide))).trans c112
  have c131 : I123 a1 9 = v34 := (f126 _ _ (fun q => absurd q.2 (by decide))).trans c113
  have c132 : I123 a1 11 = v37 := (f126 _ _ (fun q => absurd q.2 (by decide))).trans c114
  have c133 : I123 a1 13 = v40 := (f126 _ _ (fun q => absurd q.2 (by decide))).trans c115
  have c134 : I123 a0 11 = v43 := (f126 _ _ (fun q => absurd q.2 (by decide))).trans c116
  have c135 : I123 a0 12 = v57 := (f126 _ _ (fun q => absurd q.2 (by decide))).trans c117
  have c136 : I123 a0 15 = v72 := (f126 _ _ (fun q => absurd q.2 (by decide))).trans c118
  have c137 : I123 a0 16 = v88 := (f126 _ _ (fun q => absurd q.2 (by decide))).trans c119
  have c138 : I123 a0 1 = x2 := (f126 _ _ (fun q => absurd q.2 (by decide))).trans e107
  have hO139 : FrO 2 a1 T I0 I123 := hO120.put f126 ta0 (Or.inl (by decide))
  refine tr_aload_n dX7_readAll_42 rfl ?_
  refine q_callVv hE (M' := mX7_step) (as := []) dX7_readAll_43 lk7_51 inX7_step seX7_step myX7_step (by decide) ⟨by decide, by decide⟩ rfl (kR7 hS124.1 ta0) (Nat.le_of_ble_eq_true rfl) rfl rfl (by decide) (by decide) (fk_X7_step hS124.1 (gB) (0) ta0 (TxA.kp hT hS124 ta0 rfl rfl rfl (by decide +kernel) (by decide +kernel)) (by (try rw [e125]); first | done | with_reducible assumption | omega) (by (try rw [c138]); first | done | with_reducible assumption | omega)) ?_
  rintro cn' K' N' I140 R141 L142 ⟨rfl, rfl, rfl, rfl, g143, gl144, p146, p147, p148, p149, p150, -⟩
  have hS151 := hS124.tr g143 (by decide +kernel) (by decide +kernel)
  have c152 : I140 a1 0 = v22 := (g143.cell ta1 (by decide +kernel)).trans c127
  have c153 : I140 a1 1 = v25 := (g143.cell ta1 (by decide +kernel)).trans c128
  have c154 : I140 a1 3 = v28 := (g143.cell ta1 (by decide +kernel)).trans c129
  have c155 : I140 a1 5 = v31 := (g143.cell ta1 (by decide +kernel)).trans c130
  have c156 : I140 a1 9 = v34 := (g143.cell ta1 (by decide +kernel)).trans c131
  have c157 : I140 a1 11 = v37 := (g143.cell ta1 (by decide +kernel)).trans c132
  have c158 : I140 a1 13 = v40 := (g143.cell ta1 (by decide +kernel)).trans c133
  have c159 : I140 a0 11 = v43 := (g143.cell ta0 (by decide +kernel)).trans c134
  have c160 : I140 a0 12 = v57 := (g143.cell ta0 (by decide +kernel)).trans c135
  have c161 : I140 a0 15 = v72 := (g143.cell ta0 (by decide +kernel)).trans c136
  have c162 : I140 a0 16 = v88 := (g143.cell ta0 (by decide +kernel)).trans c137
  have c163 : I140 a0 1 = x2 := (g143.cell ta0 (by decide +kernel)).trans c138
  have hO164 : FrO 2 a1 T I0 I140 := hO139.st g143 (by decide +kernel)
  have hL165 := hL0.tr gl144 (by decide +kernel)
  obtain ⟨v166, c167⟩ : ∃ v, I140 a0 2 = v := ⟨_, rfl⟩
  have b168 := iv7_2 hS151.1 ta0 c167
  rw [c167] at p146
  obtain ⟨v169, c170⟩ : ∃ v, I140 a0 4 = v := ⟨_, rfl⟩
  have b171 := iv7_4 hS151.1 ta0 c170
  rw [c170] at p147
  obtain ⟨v172, c173⟩ : ∃ v, I140 a0 3 = v := ⟨_, rfl⟩
  have b174 := iv7_3 hS151.1 ta0 c173
  rw [c173] at p148
  obtain ⟨y175, c176⟩ : ∃ v, L142 a0 5 = v := ⟨_, rfl⟩
  rw [c176] at p149
  obtain ⟨v177, c178⟩ : ∃ v, I140 a0 6 = v := ⟨_, rfl⟩
  rw [c178] at p150
  have hN179 : NmC L142 R2 a0 Q00 := NmC.z0
  have q00_0 : Q00 0 = 0 := rfl
  have q00_1 : Q00 1 = 0 := rfl
  have q00_2 : Q00 2 = 0 := rfl
  have q00_3 : Q00 3 = 0 := rfl
  have q00_4 : Q00 4 = 0 := rfl
  have q00_5 : Q00 5 = 0 := rfl
  have q00_6 : Q00 6 = 0 := rfl
  have q00_7 : Q00 7 = 0 := rfl
  have q00_8 : Q00 8 = 0 := rfl
  refine q_iconst dX7_readAll_46 (by decide) ?_
  intro v180 h181
  refine tr_istore_n dX7_readAll_47 (by decide) (by decide) ?_
  have lp252 : ∀ (fu : Nat) (ls : Nat → Option Value) (v182 : Int32) (I187 : cz_I) (L188 : cz_L) (gs189 : Int) (gr190 : Nat) (gQ191 : Nat → Int) (v196 : Int32) (v198 : Int32) (v200 : Int32) (v202 : Int32) (v204 : Int32) (y206 : Int64) (v208 : Int32) (v210 : Int32) (v212 : Int32) (v214 : Int32) (v216 : Int32) (v218 : Int32) (v220 : Int32) (v222 : Int32) (v224 : Int32) (v226 : Int32), ls 0 = some (.ref a0) → ls 1 = some (.ref a1) → ls 2 = some (.int x2) → ls 3 = some (.int v182) → St T cn K N d wik_X7_readAll wrk_X7_readAll I0 R0 I187 R2 → LgS T wlk_X7_readAll L0 L188 → NmC L188 R2 a0 gQ191 → FrO 2 a1 T I0 I187 → I187 a0 1 = v196 → I187 a0 15 = v198 → I187 a0 2 = v200 → I187 a0 4 = v202 → I187 a0 3 = v204 → L188 a0 5 = y206 → I187 a0 6 = v208 → I187 a1 0 = v210 → I187 a1 1 = v212 → I187 a1 3 = v214 → I187 a1 5 = v216 → I187 a1 9 = v218 → I187 a1 11 = v220 → I187 a1 13 = v222 → I187 a0 11 = v224 → I187 a0 12 = v226 → (lsF gB gr190 gs189 gQ191) = (lsF gB 901 0 Q00) → (lsP gB gr190 gs189 gQ191) = (lsP gB 901 0 Q00) → (lsC gB gr190 gs189 gQ191) = (lsC gB 901 0 Q00) → (lsA0 gB gr190 gs189 gQ191) = (lsA0 gB 901 0 Q00) → (lsA5 gB gr190 gs189 gQ191) = (lsA5 gB 901 0 Q00) → v196.toInt = (gB.2) → v198.toInt = 0 → 0 ≤ v182.toInt → v182.toInt ≤ 901 → ((gr190 : Int)) = -v182.toInt + 901 → v200.toInt = (tkN gB gs189) → v202.toInt = (tkS gB gs189) → v204.toInt = (tkK gB gs189) → (AtW ((tkK gB gs189)) (y206.toInt) ((tkW gB gs189))) → (AtV ((tkK gB gs189)) (v208.toInt) ((tkV gB gs189))) → v210.toInt = (gQ191 0) → v212.toInt = (gQ191 1) → v214.toInt = (gQ191 2) → v216.toInt = (gQ191 3) → v218.toInt = (gQ191 4) → v220.toInt = (gQ191 5) → v222.toInt = (gQ191 6) → v224.toInt = (gQ191 7) → v226.toInt = (gQ191 8) → (-v182.toInt + 901).toNat < fu → Tr X mX7_readAll 48 ls [] cn K N I187 R2 L188 0 0 := by
    intro fu
    induction fu with
    | zero => intros; rename_i hz; exact absurd hz (Nat.not_lt_zero _)
    | succ fu ih252 =>
      intro ls v182 I187 L188 gs189 gr190 gQ191 v196 v198 v200 v202 v204 y206 v208 v210 v212 v214 v216 v218 v220 v222 v224 v226 hl183 hl184 hl185 hl186 hS192 hL193 hN194 hO195 c197 c199 c201 c203 c205 c207 c209 c211 c213 c215 c217 c219 c221 c223 c225 c227 g228 g229 g230 g231 g232 g233 g234 g235 g236 g237 g238 g239 g240 g241 g242 g243 g244 g245 g246 g247 g248 g249 g250 g251 hm252
      have b254 := iv7_1 hS192.1 ta0 c197
      have b255 := iv7_2 hS192.1 ta0 c201
      have b256 := iv7_4 hS192.1 ta0 c203
      have b257 := iv7_3 hS192.1 ta0 c205
      have b258 := iv2_0 hS192.1 ta1 c211
      have b259 := iv2_1 hS192.1 ta1 c213
      have b260 := iv2_3 hS192.1 ta1 c215
      have b261 := iv2_5 hS192.1 ta1 c217
      have b262 := iv2_9 hS192.1 ta1 c219
      have b263 := iv2_11 hS192.1 ta1 c221
      have b264 := iv2_13 hS192.1 ta1 c223
      have b265 := iv7_11 hS192.1 ta0 c225
      have b266 := iv7_12 hS192.1 ta0 c227
      rcases Nat.eq_zero_or_pos gr190 with hz267 | hz267
      · skip
        subst hz267
        refine tr_iload_n dX7_readAll_48 hl186 ?_
        refine q_sipush dX7_readAll_49 (by decide +kernel) ?_
        intro v269 h270
        refine q_icmp_gt 120 dX7_readAll_52 (by decide) (fun h271 => ?_) (fun h271 => ?_)
        · skip
          refine tr_aload_n dX7_readAll_120 hl183 ?_
          refine q_iconst dX7_readAll_121 (by decide) ?_
          intro v272 h273
          refine q_callVi hE (M' := mX7_fail) (as := [_]) dX7_readAll_122 lk7_64 inX7_fail seX7_fail myX7_fail (by decide) ⟨by decide, by decide⟩ rfl (kR7 hS192.1 ta0) (Nat.le_of_ble_eq_true rfl) rfl rfl (by decide) (by decide) (fk_X7_fail hS192.1  ta0 (by exact om_95922198 h273)) ?_
          rintro v279 cn' K' N' I274 R275 L276 ⟨rfl, rfl, rfl, rfl, rfl, g277, h280, p281, p282, p283, -⟩
          have hS284 := hS192.tr g277 (by decide +kernel) (by decide +kernel)
          have c285 : I274 a0 1 = v196 := (g277.cell ta0 (by decide +kernel)).trans c197
          have c286 : I274 a0 2 = v200 := (g277.cell ta0 (by decide +kernel)).trans c201
          have c287 : I274 a0 4 = v202 := (g277.cell ta0 (by decide +kernel)).trans c203
          have c288 : I274 a0 3 = v204 := (g277.cell ta0 (by decide +kernel)).trans c205
          have c289 : I274 a0 6 = v208 := (g277.cell ta0 (by decide +kernel)).trans c209
          have c290 : I274 a1 0 = v210 := (g277.cell ta1 (by decide +kernel)).trans c211
          have c291 : I274 a1 1 = v212 := (g277.cell ta1 (by decide +kernel)).trans c213
          have c292 : I274 a1 3 = v214 := (g277.cell ta1 (by decide +kernel)).trans c215
          have c293 : I274 a1 5 = v216 := (g277.cell ta1 (by decide +kernel)).trans c217
          have c294 : I274 a1 9 = v218 := (g277.cell ta1 (by decide +kernel)).trans c219
          have c295 : I274 a1 11 = v220 := (g277.cell ta1 (by decide +kernel)).trans c221
          have c296 : I274 a1 13 = v222 := (g277.cell ta1 (by decide +kernel)).trans c223
          have c297 : I274 a0 11 = v224 := (g277.cell ta0 (by decide +kernel)).trans c225
          have c298 : I274 a0 12 = v226 := (g277.cell ta0 (by decide +kernel)).trans c227
          have hO299 : FrO 2 a1 T I0 I274 := hO195.st g277 (by decide +kernel)
          obtain ⟨v300, c301⟩ : ∃ v, I274 a0 15 = v := ⟨_, rfl⟩
          rw [c301] at p282
          obtain ⟨v302, c303⟩ : ∃ v, I274 a0 16 = v := ⟨_, rfl⟩
          rw [c303] at p283
          rw [c203] at p283
          exact tr_zret hZ dX7_readAll_125 rfl (ti_b01 (by exact om_d99fa9e4 p281) (by exact om_d3de7ec9 p281)) (by decide) (by decide) ⟨v279, rfl, rfl, rfl, rfl, hS284, hL193, (by exact om_be53a44c h280), hO299, (Or.inr (⟨(by first | done | with_reducible assumption | omega), (by rw [← g228]; simp only [lsF, ↓reduceIte]; exact om_2d67dd8e), (by (try rw [c301]); rw [← g228]; simp only [lsF, ↓reduceIte]; exact om_9fbcd811 h273 p282), (by (try rw [c303]); rw [← g229]; simp only [lsP, ↓reduceIte]; exact om_9fa72578 g239 p283), trivial⟩)), trivial⟩
        · skip
          exfalso; exact om_8e38515c g237 h270 h271
      · skip
        obtain ⟨gk268, rfl⟩ : ∃ k, gr190 = k + 1 := ⟨gr190 - 1, by exact om_8cf6b69f g235 g236 g237 hz267⟩
        refine tr_iload_n dX7_readAll_48 hl186 ?_
        refine q_sipush dX7_readAll_49 (by decide +kernel) ?_
        intro v304 h305
        refine q_icmp_gt 120 dX7_readAll_52 (by decide) (fun h306 => ?_) (fun h306 => ?_)
        · skip
          exfalso; exact om_fe05af17 g235 g236 g237 h305 h306
        · skip
          refine tr_aload_n dX7_readAll_55 hl183 ?_
          refine q_callVi hE (M' := mX7_readLine) (as := []) dX7_readAll_56 lk7_54 inX7_readLine seX7_readLine myX7_readLine (by decide) ⟨by decide, by decide⟩ rfl (kR7 hS192.1 ta0) (Nat.le_of_ble_eq_true rfl) rfl rfl (by decide) (by decide) (fk_X7_readLine hS192.1 (gB) (gs189) (gQ191) ta0 (TxA.kp hT hS192 ta0 rfl rfl rfl (by decide +kernel) (by decide +kernel)) hN194 (by (try rw [c201]); first | done | with_reducible assumption | omega) (by (try rw [c203]); first | done | with_reducible assumption | omega) (by (try rw [c205]); first | done | with_reducible assumption | omega) (by (try rw [c207]); first | done | assumption) (by (try rw [c209]); first | done | assumption) (by (try rw [c197]); first | done | with_reducible assumption | omega) (fun q0 z0 => by obtain rfl := Option.some.inj ((e4).symm.trans z0); (try rw [c211]); first | done | with_reducible assumption | omega) (fun q0 z0 => by obtain rfl := Option.some.inj ((e4).symm.trans z0); (try rw [c213]); first | done | with_reducible assumption | omega) (fun q0 z0 => by obtain rfl := Option.some.inj ((e4).symm.trans z0); (try rw [c215]); first | done | with_reducible assumption | omega) (fun q0 z0 => by obtain rfl := Option.some.inj ((e4).symm.trans z0); (try rw [c217]); first | done | with_reducible assumption | omega) (fun q0 z0 => by obtain rfl := Option.some.inj ((e4).symm.trans z0); (try rw [c219]); first | done | with_reducible assumption | omega) (fun q0 z0 => by obtain rfl := Option.some.inj ((e4).symm.trans z0); (try rw [c221]); first | done | with_reducible assumption | omega) (fun q0 z0 => by obtain rfl := Option.some.inj ((e4).symm.trans z0); (try rw [c223]); first | done | with_reducible assumption | omega) (by (try rw [c225]); first | done | with_reducible assumption | omega) (by (try rw [c227]); first | done | with_reducible assumption | omega)) ?_
          rintro v312 cn' K' N' I307 R308 L309 ⟨rfl, rfl, rfl, rfl, g310, gl311, h313, rp314, dj315, -⟩
          have hS316 := hS192.tr g310 (by decide +kernel) (by decide +kernel)
          have c317 : I307 a0 1 = v196 := (g310.cell ta0 (by decide +kernel)).trans c197
          have hO318 : FrO 2 a1 T I0 I307 := hO195.tr (rp314 _ e4)
          have hL319 := hL193.tr gl311 (by decide +kernel)
          rcases dj315 with ⟨p320, p321, p322, p323, p324, p325, p326, p327, p328, p329, p330, p331, p332, p333, p334, p335, p336, rp337, -⟩ | ⟨p338, p339, p340, p341, -⟩
          · skip
            obtain ⟨v342, c343⟩ : ∃ v, I307 a0 15 = v := ⟨_, rfl⟩
            rw [c343] at p321
            rw [c199] at p321
            obtain ⟨v344, c345⟩ : ∃ v, I307 a1 0 = v := ⟨_, rfl⟩
            have b346 := iv2_0 hS316.1 ta1 c345
            have p347 := p323 _ e4
            clear p323
            rw [c345] at p347
            obtain ⟨v348, c349⟩ : ∃ v, I307 a1 1 = v := ⟨_, rfl⟩
            have b350 := iv2_1 hS316.1 ta1 c349
            have p351 := p324 _ e4
            clear p324
            rw [c349] at p351
            obtain ⟨v352, c353⟩ : ∃ v, I307 a1 3 = v := ⟨_, rfl⟩
            have b354 := iv2_3 hS316.1 ta1 c353
            have p355 := p325 _ e4
            clear p325
            rw [c353] at p355
            obtain ⟨v356, c357⟩ : ∃ v, I307 a1 5 = v := ⟨_, rfl⟩
            have b358 := iv2_5 hS316.1 ta1 c357
            have p359 := p326 _ e4
            clear p326
            rw [c357] at p359
            obtain ⟨v360, c361⟩ : ∃ v, I307 a1 9 = v := ⟨_, rfl⟩
            have b362 := iv2_9 hS316.1 ta1 c361
            have p363 := p327 _ e4
            clear p327
            rw [c361] at p363
            obtain ⟨v364, c365⟩ : ∃ v, I307 a1 11 = v := ⟨_, rfl⟩
            have b366 := iv2_11 hS316.1 ta1 c365
            have p367 := p328 _ e4
            clear p328
            rw [c365] at p367
            obtain ⟨v368, c369⟩ : ∃ v, I307 a1 13 = v := ⟨_, rfl⟩
            have b370 := iv2_13 hS316.1 ta1 c369
            have p371 := p329 _ e4
            clear p329
            rw [c369] at p371
            obtain ⟨v372, c373⟩ : ∃ v, I307 a0 11 = v := ⟨_, rfl⟩
            have b374 := iv7_11 hS316.1 ta0 c373
            rw [c373] at p330
            obtain ⟨v375, c376⟩ : ∃ v, I307 a0 12 = v := ⟨_, rfl⟩
            have b377 := iv7_12 hS316.1 ta0 c376
            rw [c376] at p331
            obtain ⟨v378, c379⟩ : ∃ v, I307 a0 2 = v := ⟨_, rfl⟩
            have b380 := iv7_2 hS316.1 ta0 c379
            rw [c379] at p332
            obtain ⟨v381, c382⟩ : ∃ v, I307 a0 4 = v := ⟨_, rfl⟩
            have b383 := iv7_4 hS316.1 ta0 c382
            rw [c382] at p333
            obtain ⟨v384, c385⟩ : ∃ v, I307 a0 3 = v := ⟨_, rfl⟩
            have b386 := iv7_3 hS316.1 ta0 c385
            rw [c385] at p334
            obtain ⟨y387, c388⟩ : ∃ v, L309 a0 5 = v := ⟨_, rfl⟩
            rw [c388] at p335
            obtain ⟨v389, c390⟩ : ∃ v, I307 a0 6 = v := ⟨_, rfl⟩
            rw [c390] at p336
            refine q_if_ne 64 dX7_readAll_59 (by decide) (fun h391 => ?_) (fun h391 => ?_)
            · skip
              refine tr_aload_n dX7_readAll_64 hl183 ?_
              refine q_getI dX7_readAll_65 fl7_58 (kR7 hS316.1 ta0) c385 ?_
              refine q_if_ne 96 dX7_readAll_68 (by decide) (fun h392 => ?_) (fun h392 => ?_)
              · skip
                refine tr_aload_n dX7_readAll_96 hl183 ?_
                refine q_getI dX7_readAll_97 fl7_58 (kR7 hS316.1 ta0) c385 ?_
                refine q_iconst dX7_readAll_100 (by decide) ?_
                intro v393 h394
                refine q_icmp_eq 110 dX7_readAll_101 (by decide) (fun h395 => ?_) (fun h395 => ?_)
                · skip
                  refine tr_aload_n dX7_readAll_110 hl183 ?_
                  refine q_callVv hE (M' := mX7_step) (as := []) dX7_readAll_111 lk7_51 inX7_step seX7_step myX7_step (by decide) ⟨by decide, by decide⟩ rfl (kR7 hS316.1 ta0) (Nat.le_of_ble_eq_true rfl) rfl rfl (by decide) (by decide) (fk_X7_step hS316.1 (gB) ((tkN gB (lnS gB gQ191 gs189))) ta0 (TxA.kp hT hS316 ta0 rfl rfl rfl (by decide +kernel) (by decide +kernel)) (by (try rw [c379]); first | done | with_reducible assumption | omega) (by (try rw [c317]); first | done | with_reducible assumption | omega)) ?_
                  rintro cn' K' N' I396 R397 L398 ⟨rfl, rfl, rfl, rfl, g399, gl400, p402, p403, p404, p405, p406, -⟩
                  have hS407 := hS316.tr g399 (by decide +kernel) (by decide +kernel)
                  have c408 : I396 a0 1 = v196 := (g399.cell ta0 (by decide +kernel)).trans c317
                  have c409 : I396 a0 15 = v342 := (g399.cell ta0 (by decide +kernel)).trans c343
                  have c410 : I396 a1 0 = v344 := (g399.cell ta1 (by decide +kernel)).trans c345
                  have c411 : I396 a1 1 = v348 := (g399.cell ta1 (by decide +kernel)).trans c349
                  have c412 : I396 a1 3 = v352 := (g399.cell ta1 (by decide +kernel)).trans c353
                  have c413 : I396 a1 5 = v356 := (g399.cell ta1 (by decide +kernel)).trans c357
                  have c414 : I396 a1 9 = v360 := (g399.cell ta1 (by decide +kernel)).trans c361
                  have c415 : I396 a1 11 = v364 := (g399.cell ta1 (by decide +kernel)).trans c365
                  have c416 : I396 a1 13 = v368 := (g399.cell ta1 (by decide +kernel)).trans c369
                  have c417 : I396 a0 11 = v372 := (g399.cell ta0 (by decide +kernel)).trans c373
                  have c418 : I396 a0 12 = v375 := (g399.cell ta0 (by decide +kernel)).trans c376
                  have hO419 : FrO 2 a1 T I0 I396 := hO318.st g399 (by decide +kernel)
                  have hL420 := hL319.tr gl400 (by decide +kernel)
                  have hN421 : NmC L398 R2 a0 (lnQ gB gQ191 gs189) := NmC.kp rp337 gl400 hS407.1 ta0 (by decide +kernel) (by decide +kernel)
                  obtain ⟨v422, c423⟩ : ∃ v, I396 a0 2 = v := ⟨_, rfl⟩
                  have b424 := iv7_2 hS407.1 ta0 c423
                  rw [c423] at p402
                  obtain ⟨v425, c426⟩ : ∃ v, I396 a0 4 = v := ⟨_, rfl⟩
                  have b427 := iv7_4 hS407.1 ta0 c426
                  rw [c426] at p403
                  obtain ⟨v428, c429⟩ : ∃ v, I396 a0 3 = v := ⟨_, rfl⟩
                  have b430 := iv7_3 hS407.1 ta0 c429
                  rw [c429] at p404
                  obtain ⟨y431, c432⟩ : ∃ v, L398 a0 5 = v := ⟨_, rfl⟩
                  rw [c432] at p405
                  obtain ⟨v433, c434⟩ : ∃ v, I396 a0 6 = v := ⟨_, rfl⟩
                  rw [c434] at p406
                  refine q_iincE dX7_readAll_114 hl186 (by decide) (by decide) (by intro j1 j2; exact om_6e16a9c7 g235 g236 g237) ?_
                  intro v435 h436
                  refine tr_goto 48 dX7_readAll_117 (by decide) ?_
                  exact ih252 _ v435 I396 L398 ((tkN gB (lnS gB gQ191 gs189))) (gk268) ((lnQ gB gQ191 gs189)) v196 v342 v422 v425 v428 y431 v433 v344 v348 v352 v356 v360 v364 v368 v372 v375 hl183 hl184 hl185 rfl hS407 hL420 hN421 hO419 c408 c409 c423 c426 c429 c432 c434 c410 c411 c412 c413 c414 c415 c416 c417 c418 (by rw [← g228]; simp only [lsF, ↓reduceIte]; exact om_4a7f572d p322 p334 h394 h395) (by rw [← g229]; simp only [lsP, ↓reduceIte]; exact om_9b5eadeb p322 p334 h394 h395) (by rw [← g230]; simp only [lsC, ↓reduceIte]; exact om_5546231b p322 p334 h394 h395) (by rw [← g231]; simp only [lsA0, ↓reduceIte]; exact om_94e718db p322 p334 h394 h395) (by rw [← g232]; simp only [lsA5, ↓reduceIte]; exact om_94e718db p322 p334 h394 h395) (by exact om_acd7a85a g233) (by exact om_d12bbb76 g234 p321) (by exact om_7639a54d g235 g236 g237 h436) (by exact om_b3c88cb2 g235 g236 g237 h436) (by exact om_6737e945 g237 h436) (by exact om_acd7a85a p402) (by exact om_acd7a85a p403) (by exact om_acd7a85a p404) (by assumption) (by assumption) (by exact om_acd7a85a p347) (by exact om_acd7a85a p351) (by exact om_acd7a85a p355) (by exact om_acd7a85a p359) (by exact om_acd7a85a p363) (by exact om_acd7a85a p367) (by exact om_acd7a85a p371) (by exact om_acd7a85a p330) (by exact om_acd7a85a p331) (by exact om_4b93d063 g235 g236 hm252 g237 p320 p334 h391 h392 h394 h395 h436)
                · skip
                  refine tr_aload_n dX7_readAll_104 hl183 ?_
                  refine q_iconst dX7_readAll_105 (by decide) ?_
                  intro v437 h438
                  refine q_callVi hE (M' := mX7_fail) (as := [_]) dX7_readAll_106 lk7_64 inX7_fail seX7_fail myX7_fail (by decide) ⟨by decide, by decide⟩ rfl (kR7 hS316.1 ta0) (Nat.le_of_ble_eq_true rfl) rfl rfl (by decide) (by decide) (fk_X7_fail hS316.1  ta0 (by exact om_95922198 h438)) ?_
                  rintro v444 cn' K' N' I439 R440 L441 ⟨rfl, rfl, rfl, rfl, rfl, g442, h445, p446, p447, p448, -⟩
                  have hS449 := hS316.tr g442 (by decide +kernel) (by decide +kernel)
                  have c450 : I439 a0 1 = v196 := (g442.cell ta0 (by decide +kernel)).trans c317
                  have c451 : I439 a1 0 = v344 := (g442.cell ta1 (by decide +kernel)).trans c345
                  have c452 : I439 a1 1 = v348 := (g442.cell ta1 (by decide +kernel)).trans c349
                  have c453 : I439 a1 3 = v352 := (g442.cell ta1 (by decide +kernel)).trans c353
                  have c454 : I439 a1 5 = v356 := (g442.cell ta1 (by decide +kernel)).trans c357
                  have c455 : I439 a1 9 = v360 := (g442.cell ta1 (by decide +kernel)).trans c361
                  have c456 : I439 a1 11 = v364 := (g442.cell ta1 (by decide +kernel)).trans c365
                  have c457 : I439 a1 13 = v368 := (g442.cell ta1 (by decide +kernel)).trans c369
                  have c458 : I439 a0 11 = v372 := (g442.cell ta0 (by decide +kernel)).trans c373
                  have c459 : I439 a0 12 = v375 := (g442.cell ta0 (by decide +kernel)).trans c376
                  have c460 : I439 a0 2 = v378 := (g442.cell ta0 (by decide +kernel)).trans c379
                  have c461 : I439 a0 4 = v381 := (g442.cell ta0 (by decide +kernel)).trans c382
                  have c462 : I439 a0 3 = v384 := (g442.cell ta0 (by decide +kernel)).trans c385
                  have c463 : I439 a0 6 = v389 := (g442.cell ta0 (by decide +kernel)).trans c390
                  have hO464 : FrO 2 a1 T I0 I439 := hO318.st g442 (by decide +kernel)
                  obtain ⟨v465, c466⟩ : ∃ v, I439 a0 15 = v := ⟨_, rfl⟩
                  rw [c466] at p447
                  obtain ⟨v467, c468⟩ : ∃ v, I439 a0 16 = v := ⟨_, rfl⟩
                  rw [c468] at p448
                  rw [c382] at p448
                  exact tr_zret hZ dX7_readAll_109 rfl (ti_b01 (by exact om_d99fa9e4 p446) (by exact om_d3de7ec9 p446)) (by decide) (by decide) ⟨v444, rfl, rfl, rfl, rfl, hS449, hL319, (by exact om_be53a44c h445), hO464, (Or.inr (⟨(by first | done | with_reducible assumption | omega), (by rw [← g228]; simp only [lsF, ↓reduceIte]; exact om_334fb9ec p334 h392 h394 h395), (by (try rw [c466]); rw [← g228]; simp only [lsF, ↓reduceIte]; exact om_7a744a78 p322 p334 h392 h394 h395 h438 p447), (by (try rw [c468]); rw [← g229]; simp only [lsP, ↓reduceIte]; exact om_b76490cf p322 p333 b383.2 b383.1 p334 h392 h394 h395 p448), trivial⟩)), trivial⟩
              · skip
                refine tr_aload_n dX7_readAll_71 hl183 ?_
                refine tr_getR dX7_readAll_72 fl7_22 (kR7 hS316.1 ta0) e4 ?_
                refine q_getI dX7_readAll_75 fl7_61 (kR2 hS316.1 ta1) c357 ?_
                refine q_if_gt 90 dX7_readAll_78 (by decide) (fun h469 => ?_) (fun h469 => ?_)
                · skip
                  refine q_iconst dX7_readAll_90 (by decide) ?_
                  intro v470 h471
                  refine tr_goto 95 dX7_readAll_91 (by decide) ?_
                  obtain ⟨v472, c473⟩ : ∃ v, I307 a0 16 = v := ⟨_, rfl⟩
                  exact tr_zret hZ dX7_readAll_95 rfl (ti_b01 (by exact om_f9079521 h471) (by exact om_e6632817 h471)) (by decide) (by decide) ⟨v470, rfl, rfl, rfl, rfl, hS316, hL319, (by exact om_d753bc65 h471), hO318, (Or.inl ⟨(by first | done | with_reducible assumption | omega), (by rw [← g228]; simp only [lsF, ↓reduceIte]; exact om_04a7a3a2 p322 b358.2 b358.1 p359 p334 h392 h469), (by (try rw [c343]); first | done | with_reducible assumption | exact om_d12bbb76 g234 p321), (by (try rw [c357]); rw [← g230]; simp only [lsC, ↓reduceIte]; exact om_10d7ef69 p322 b358.2 b358.1 p359 p334 h392 h469), (by (try rw [c345]); rw [← g231]; simp only [lsA0, ↓reduceIte]; exact om_6e094d8e p322 b346.2 b346.1 p347 b358.2 b358.1 p359 p334 h392 h469), (by (try rw [c365]); rw [← g232]; simp only [lsA5, ↓reduceIte]; exact om_e88096b8 p322 b358.2 b358.1 p359 b366.2 b366.1 p367 p334 h392 h469), trivial⟩), trivial⟩
                · skip
                  refine tr_aload_n dX7_readAll_81 hl183 ?_
                  refine q_bipush dX7_readAll_82 (by decide +kernel) ?_
                  intro v474 h475
                  refine q_callVi hE (M' := mX7_fail) (as := [_]) dX7_readAll_84 lk7_64 inX7_fail seX7_fail myX7_fail (by decide) ⟨by decide, by decide⟩ rfl (kR7 hS316.1 ta0) (Nat.le_of_ble_eq_true rfl) rfl rfl (by decide) (by decide) (fk_X7_fail hS316.1  ta0 (by exact om_54a92a42 h475)) ?_
                  rintro v481 cn' K' N' I476 R477 L478 ⟨rfl, rfl, rfl, rfl, rfl, g479, h482, p483, p484, p485, -⟩
                  have hS486 := hS316.tr g479 (by decide +kernel) (by decide +kernel)
                  have c487 : I476 a0 1 = v196 := (g479.cell ta0 (by decide +kernel)).trans c317
                  have c488 : I476 a1 0 = v344 := (g479.cell ta1 (by decide +kernel)).trans c345
                  have c489 : I476 a1 1 = v348 := (g479.cell ta1 (by decide +kernel)).trans c349
                  have c490 : I476 a1 3 = v352 := (g479.cell ta1 (by decide +kernel)).trans c353
                  have c491 : I476 a1 5 = v356 := (g479.cell ta1 (by decide +kernel)).trans c357
                  have c492 : I476 a1 9 = v360 := (g479.cell ta1 (by decide +kernel)).trans c361
                  have c493 : I476 a1 11 = v364 := (g479.cell ta1 (by decide +kernel)).trans c365
                  have c494 : I476 a1 13 = v368 := (g479.cell ta1 (by decide +kernel)).trans c369
                  have c495 : I476 a0 11 = v372 := (g479.cell ta0 (by decide +kernel)).trans c373
                  have c496 : I476 a0 12 = v375 := (g479.cell ta0 (by decide +kernel)).trans c376
                  have c497 : I476 a0 2 = v378 := (g479.cell ta0 (by decide +kernel)).trans c379
                  have c498 : I476 a0 4 = v381 := (g479.cell ta0 (by decide +kernel)).trans c382
                  have c499 : I476 a0 3 = v384 := (g479.cell ta0 (by decide +kernel)).trans c385
                  have c500 : I476 a0 6 = v389 := (g479.cell ta0 (by decide +kernel)).trans c390
                  have hO501 : FrO 2 a1 T I0 I476 := hO318.st g479 (by decide +kernel)
                  obtain ⟨v502, c503⟩ : ∃ v, I476 a0 15 = v := ⟨_, rfl⟩
                  rw [c503] at p484
                  obtain ⟨v504, c505⟩ : ∃ v, I476 a0 16 = v := ⟨_, rfl⟩
                  rw [c505] at p485
                  rw [c382] at p485
                  refine q_if_eq 94 dX7_readAll_87 (by decide) (fun h506 => ?_) (fun h506 => ?_)
                  · skip
                    refine q_iconst dX7_readAll_94 (by decide) ?_
                    intro v507 h508
                    exact tr_zret hZ dX7_readAll_95 rfl (ti_b01 (by exact om_d99fa9e4 h508) (by exact om_d3de7ec9 h508)) (by decide) (by decide) ⟨v507, rfl, rfl, rfl, rfl, hS486, hL319, (by exact om_3b50ecb9 h508), hO501, (Or.inr (⟨(by first | done | with_reducible assumption | omega), (by rw [← g228]; simp only [lsF, ↓reduceIte]; exact om_bbbc31af b358.2 b358.1 p359 p334 h392 h469), (by (try rw [c503]); rw [← g228]; simp only [lsF, ↓reduceIte]; exact om_20236b7e p322 b358.2 b358.1 p359 p334 h392 h469 h475 p484), (by (try rw [c505]); rw [← g229]; simp only [lsP, ↓reduceIte]; exact om_06ad5e90 p322 b358.2 b358.1 p359 p333 p334 h392 h469 p485), trivial⟩)), trivial⟩
                  · skip
                    exfalso; exact om_3a97d4a5 p483 h506
            · skip
              exfalso; exact om_3624102b p320 h391
          · skip
            obtain ⟨v509, c510⟩ : ∃ v, I307 a0 15 = v := ⟨_, rfl⟩
            rw [c510] at p340
            obtain ⟨v511, c512⟩ : ∃ v, I307 a0 16 = v := ⟨_, rfl⟩
            rw [c512] at p341
            refine q_if_ne 64 dX7_readAll_59 (by decide) (fun h513 => ?_) (fun h513 => ?_)
            · skip
              exfalso; exact om_3a97d4a5 p338 h513
            · skip
              refine q_iconst dX7_readAll_62 (by decide) ?_
              intro v514 h515
              obtain ⟨v516, c517⟩ : ∃ v, I307 a1 5 = v := ⟨_, rfl⟩
              have b518 := iv2_5 hS316.1 ta1 c517
              obtain ⟨v519, c520⟩ : ∃ v, I307 a1 0 = v := ⟨_, rfl⟩
              have b521 := iv2_0 hS316.1 ta1 c520
              obtain ⟨v522, c523⟩ : ∃ v, I307 a1 11 = v := ⟨_, rfl⟩
              have b524 := iv2_11 hS316.1 ta1 c523
              exact tr_zret hZ dX7_readAll_63 rfl (ti_b01 (by exact om_d99fa9e4 h515) (by exact om_d3de7ec9 h515)) (by decide) (by decide) ⟨v514, rfl, rfl, rfl, rfl, hS316, hL319, (by exact om_3b50ecb9 h515), hO318, (Or.inr (⟨(by first | done | with_reducible assumption | omega), (by rw [← g228]; simp only [lsF, ↓reduceIte]; exact om_c099efaa p339), (by (try rw [c510]); rw [← g228]; simp only [lsF, ↓reduceIte]; exact om_8d90ab30 p339 p340), (by (try rw [c512]); rw [← g229]; simp only [lsP, ↓reduceIte]; exact om_76a94d27 p339 p341), trivial⟩)), trivial⟩
  exact lp252 _ _ v180 I140 L142 (0) (901) (Q00) x2 v72 v166 v169 v172 y175 v177 v22 v25 v28 v31 v34 v37 v40 v43 v57 rfl rfl rfl rfl hS151 hL165 hN179 hO164 c163 c161 c167 c170 c173 c176 c178 c152 c153 c154 c155 c156 c157 c158 c159 c160 (by first | rfl | (congr 1; omega) | (congr 2 <;> omega)) (by first | rfl | (congr 1; omega) | (congr 2 <;> omega)) (by first | rfl | (congr 1; omega) | (congr 2 <;> omega)) (by first | rfl | (congr 1; omega) | (congr 2 <;> omega)) (by first | rfl | (congr 1; omega) | (congr 2 <;> omega)) (by exact om_acd7a85a p1) (by exact om_29f55913 h73) (by exact om_d99fa9e4 h181) (by exact om_c2b07d34 h181) (by exact om_789ef40c h181) (by exact om_acd7a85a p146) (by exact om_acd7a85a p147) (by exact om_acd7a85a p148) (by assumption) (by assumption) (by exact om_5bac22bd p12 q00_0) (by exact om_5bac22bd p13 q00_1) (by exact om_5bac22bd p14 q00_2) (by exact om_5bac22bd p15 q00_3) (by exact om_5bac22bd p16 q00_4) (by exact om_5bac22bd p17 q00_5) (by exact om_5bac22bd p18 q00_6) (by exact om_5bac22bd h44 q00_7) (by exact om_5bac22bd h58 q00_8) (Nat.lt_succ_self _)
def wik_X10_refused : List Nat := [81]
def wrk_X10_refused : List Nat := []
set_option maxHeartbeats 4000000 in
theorem fk_X10_refused {l : Launch} {T : Nat → Nat} {cn : Nat} {K N : Nat → Nat} {I0 : cz_I} {R0 : cz_R} {L0 : cz_L} {d : Int} (hW0 : Wf T cn K N I0 R0 d)  {a0 : Nat} (ta0 : T a0 = 1) {x1 : Int32} : ConE l mX10_refused [.ref a0, .int x1] cn K N I0 R0 L0 (ca_i (fun v cn' K' N' I' R' L' => cn = cn' ∧ K = K' ∧ N = N' ∧ R0 = R' ∧ L0 = L' ∧ St T cn K N d wik_X10_refused wrk_X10_refused I0 R0 I' R0 ∧ (v.toInt = -1) ∧ ((I' a0 17).toInt = x1.toInt) ∧ True)) := by
  refine ConE.of (by decide +kernel) rfl (Nat.le_of_ble_eq_true rfl) rfl (fun X hX hZ hE => ?_)
  subst hX
  have hS0 : St T cn K N d wik_X10_refused wrk_X10_refused I0 R0 I0 R0 := St.rf0 hW0
  refine tr_aload_n dX10_refused_0 rfl ?_
  refine tr_iload_n dX10_refused_1 rfl ?_
  refine q_putI dX10_refused_2 fl10_112 (kR1 hS0.1 ta0) (Or.inl rfl) hS0 ta0 (iokF rfl) rfl (by decide +kernel) ?_
  intro I1 hS2 e3 f4
  refine q_iconst dX10_refused_5 (by decide) ?_
  intro v5 h6
  exact tr_iret hZ dX10_refused_6 rfl (by decide) (by decide) ⟨v5, rfl, rfl, rfl, rfl, rfl, rfl, hS2, (by first | done | with_reducible assumption | omega), (by (try rw [e3]); first | done | with_reducible assumption | omega), trivial⟩
def wik_X3_clear : List Nat := [512, 513, 514]
def wrk_X3_clear : List Nat := []
set_option maxHeartbeats 4000000 in
theorem fk_X3_clear {l : Launch} {T : Nat → Nat} {cn : Nat} {K N : Nat → Nat} {I0 : cz_I} {R0 : cz_R} {L0 : cz_L} {d : Int} (hW0 : Wf T cn K N I0 R0 d)  {a0 : Nat} (ta0 : T a0 = 8) : ConE l mX3_clear [.ref a0] cn K N I0 R0 L0 (ca_v (fun cn' K' N' I' R' L' => cn = cn' ∧ K = K' ∧ N = N' ∧ R0 = R' ∧ L0 = L' ∧ St T cn K N d wik_X3_clear wrk_X3_clear I0 R0 I' R0 ∧ ((I' a0 0).toInt = 0) ∧ ((I' a0 1).toInt = 0) ∧ ((I' a0 2).toInt = 0) ∧ True)) := by
  refine ConE.of (by decide +kernel) rfl (Nat.le_of_ble_eq_true rfl) rfl (fun X hX hZ hE => ?_)
  subst hX
  have hS0 : St T cn K N d wik_X3_clear wrk_X3_clear I0 R0 I0 R0 := St.rf0 hW0
  refine tr_aload_n dX3_clear_0 rfl ?_
  refine q_iconst dX3_clear_1 (by decide) ?_
  intro v1 h2
  refine q_putI dX3_clear_2 fl3_18 (kR8 hS0.1 ta0) (Or.inl rfl) hS0 ta0 (iokF rfl) rfl (by decide +kernel) ?_
  intro I3 hS4 e5 f6
  refine tr_aload_n dX3_clear_5 rfl ?_
  refine q_iconst dX3_clear_6 (by decide) ?_
  intro v7 h8
  refine q_putI dX3_clear_7 fl3_22 (kR8 hS4.1 ta0) (Or.inl rfl) hS4 ta0 (by show (0 : Int) ≤ v7.toInt ∧ v7.toInt ≤ (65536 : Int); exact om_a4a2c3e9 h8) rfl (by decide +kernel) ?_
  intro I9 hS10 e11 f12
  have c13 : I9 a0 0 = v1 := (f12 _ _ (fun q => absurd q.2 (by decide))).trans e5
  refine tr_aload_n dX3_clear_10 rfl ?_
  refine q_iconst dX3_clear_11 (by decide) ?_
  intro v14 h15
  refine q_putI dX3_clear_12 fl3_25 (kR8 hS10.1 ta0) (Or.inl rfl) hS10 ta0 (by show (0 : Int) ≤ v14.toInt ∧ v14.toInt ≤ (6 : Int); exact om_a3bde316 h15) rfl (by decide +kernel) ?_
  intro I16 hS17 e18 f19
  have c20 : I16 a0 0 = v1 := (f19 _ _ (fun q => absurd q.2 (by decide))).trans c13
  have c21 : I16 a0 1 = v7 := (f19 _ _ (fun q => absurd q.2 (by decide))).trans e11
  exact tr_vret hZ dX3_clear_15 rfl (by decide) (by decide) ⟨rfl, rfl, rfl, rfl, rfl, rfl, hS17, (by (try rw [c20]); first | done | with_reducible assumption | omega), (by (try rw [c21]); first | done | with_reducible assumption | omega), (by (try rw [e18]); first | done | with_reducible assumption | omega), trivial⟩
def wik_X6_clear : List Nat := [704, 706]
def wrk_X6_clear : List Nat := []
set_option maxHeartbeats 4000000 in
theorem fk_X6_clear {l : Launch} {T : Nat → Nat} {cn : Nat} {K N : Nat → Nat} {I0 : cz_I} {R0 : cz_R} {L0 : cz_L} {d : Int} (hW0 : Wf T cn K N I0 R0 d)  {a0 : Nat} (ta0 : T a0 = 11) : ConE l mX6_clear [.ref a0] cn K N I0 R0 L0 (ca_v (fun cn' K' N' I' R' L' => cn = cn' ∧ K = K' ∧ N = N' ∧ R0 = R' ∧ L0 = L' ∧ St T cn K N d wik_X6_clear wrk_X6_clear I0 R0 I' R0 ∧ ((I' a0 0).toInt = 0) ∧ ((I' a0 2).toInt = 0) ∧ True)) := by
  refine ConE.of (by decide +kernel) rfl (Nat.le_of_ble_eq_true rfl) rfl (fun X hX hZ hE => ?_)
  subst hX
  have hS0 : St T cn K N d wik_X6_clear wrk_X6_clear I0 R0 I0 R0 := St.rf0 hW0
  refine tr_aload_n dX6_clear_0 rfl ?_
  refine q_iconst dX6_clear_1 (by decide) ?_
  intro v1 h2
  refine q_putI dX6_clear_2 fl6_21 (kR11 hS0.1 ta0) (Or.inl rfl) hS0 ta0 (by show (0 : Int) ≤ v1.toInt ∧ v1.toInt ≤ (12 : Int); exact om_dbf687ed h2) rfl (by decide +kernel) ?_
  intro I3 hS4 e5 f6
  refine tr_aload_n dX6_clear_5 rfl ?_
  refine q_iconst dX6_clear_6 (by decide) ?_
  intro v7 h8
  refine q_putI dX6_clear_7 fl6_25 (kR11 hS4.1 ta0) (Or.inl rfl) hS4 ta0 (by show (0 : Int) ≤ v7.toInt ∧ v7.toInt ≤ (3 : Int); exact om_a28085d4 h8) rfl (by decide +kernel) ?_
  intro I9 hS10 e11 f12
  have c13 : I9 a0 0 = v1 := (f12 _ _ (fun q => absurd q.2 (by decide))).trans e5
  exact tr_vret hZ dX6_clear_10 rfl (by decide) (by decide) ⟨rfl, rfl, rfl, rfl, rfl, rfl, hS10, (by (try rw [c13]); first | done | with_reducible assumption | omega), (by (try rw [e11]); first | done | with_reducible assumption | omega), trivial⟩
def wik_X10_answered : List Nat := [81]
def wrk_X10_answered : List Nat := []
set_option maxHeartbeats 4000000 in
theorem fk_X10_answered {l : Launch} {T : Nat → Nat} {cn : Nat} {K N : Nat → Nat} {I0 : cz_I} {R0 : cz_R} {L0 : cz_L} {d : Int} (hW0 : Wf T cn K N I0 R0 d)  {a0 : Nat} (ta0 : T a0 = 1) {x1 : Int32} : ConE l mX10_answered [.ref a0, .int x1] cn K N I0 R0 L0 (ca_i (fun v cn' K' N' I' R' L' => cn = cn' ∧ K = K' ∧ N = N' ∧ R0 = R' ∧ L0 = L' ∧ St T cn K N d wik_X10_answered wrk_X10_answered I0 R0 I' R0 ∧ (v.toInt = x1.toInt) ∧ ((I' a0 17).toInt = 0) ∧ True)) := by
  refine ConE.of (by decide +kernel) rfl (Nat.le_of_ble_eq_true rfl) rfl (fun X hX hZ hE => ?_)
  subst hX
  have hS0 : St T cn K N d wik_X10_answered wrk_X10_answered I0 R0 I0 R0 := St.rf0 hW0
  refine tr_aload_n dX10_answered_0 rfl ?_
  refine q_iconst dX10_answered_1 (by decide) ?_
  intro v1 h2
  refine q_putI dX10_answered_2 fl10_112 (kR1 hS0.1 ta0) (Or.inl rfl) hS0 ta0 (iokF rfl) rfl (by decide +kernel) ?_
  intro I3 hS4 e5 f6
  refine tr_iload_n dX10_answered_5 rfl ?_
  exact tr_iret hZ dX10_answered_6 rfl (by decide) (by decide) ⟨x1, rfl, rfl, rfl, rfl, rfl, rfl, hS4, (by first | done | with_reducible assumption | exact om_4ee7209a), (by (try rw [e5]); first | done | with_reducible assumption | omega), trivial⟩
