def wik_X0_clear : List Nat := [128, 129, 131, 133, 135, 137, 139, 141, 384]
def wrk_X0_clear : List Nat := []
set_option maxHeartbeats 4000000 in
theorem fk_X0_clear {l : Launch} {T : Nat → Nat} {cn : Nat} {K N : Nat → Nat} {I0 : cz_I} {R0 : cz_R} {L0 : cz_L} {d : Int} (hW0 : Wf T cn K N I0 R0 d)  {a0 : Nat} (ta0 : T a0 = 2) : ConE l mX0_clear [.ref a0] cn K N I0 R0 L0 (ca_v (fun cn' K' N' I' R' L' => cn = cn' ∧ K = K' ∧ N = N' ∧ R0 = R' ∧ L0 = L' ∧ St T cn K N d wik_X0_clear wrk_X0_clear I0 R0 I' R0 ∧ ((I' a0 0).toInt = 0) ∧ ((I' a0 1).toInt = 0) ∧ ((I' a0 3).toInt = 0) ∧ ((I' a0 5).toInt = 0) ∧ ((I' a0 9).toInt = 0) ∧ ((I' a0 11).toInt = 0) ∧ ((I' a0 13).toInt = 0) ∧ True)) := by
  refine ConE.of (by decide +kernel) rfl (Nat.le_of_ble_eq_true rfl) rfl (fun X hX hZ hE => ?_)
  subst hX
  have hS0 : St T cn K N d wik_X0_clear wrk_X0_clear I0 R0 I0 R0 := St.rf0 hW0
  refine tr_aload_n dX0_clear_0 rfl ?_
  refine q_iconst dX0_clear_1 (by decide) ?_
  intro v1 h2
  refine q_putI dX0_clear_2 fl0_50 (kR2 hS0.1 ta0) (Or.inl rfl) hS0 ta0 (by show (0 : Int) ≤ v1.toInt ∧ v1.toInt ≤ (240 : Int); omega) rfl (by decide +kernel) ?_
  intro I3 hS4 e5 f6
  refine tr_aload_n dX0_clear_5 rfl ?_
  refine q_iconst dX0_clear_6 (by decide) ?_
  intro v7 h8
  refine q_putI dX0_clear_7 fl0_54 (kR2 hS4.1 ta0) (Or.inl rfl) hS4 ta0 (by show (0 : Int) ≤ v7.toInt ∧ v7.toInt ≤ (4 : Int); omega) rfl (by decide +kernel) ?_
  intro I9 hS10 e11 f12
  have c13 : I9 a0 0 = v1 := (f12 _ _ (fun q => absurd q.2 (by decide))).trans e5
  refine tr_aload_n dX0_clear_10 rfl ?_
  refine q_iconst dX0_clear_11 (by decide) ?_
  intro v14 h15
  refine q_putI dX0_clear_12 fl0_57 (kR2 hS10.1 ta0) (Or.inl rfl) hS10 ta0 (by show (0 : Int) ≤ v14.toInt ∧ v14.toInt ≤ (14 : Int); omega) rfl (by decide +kernel) ?_
  intro I16 hS17 e18 f19
  have c20 : I16 a0 0 = v1 := (f19 _ _ (fun q => absurd q.2 (by decide))).trans c13
  have c21 : I16 a0 1 = v7 := (f19 _ _ (fun q => absurd q.2 (by decide))).trans e11
  refine tr_aload_n dX0_clear_15 rfl ?_
  refine q_iconst dX0_clear_16 (by decide) ?_
  intro v22 h23
  refine q_putI dX0_clear_17 fl0_60 (kR2 hS17.1 ta0) (Or.inl rfl) hS17 ta0 (by show (0 : Int) ≤ v22.toInt ∧ v22.toInt ≤ (8 : Int); omega) rfl (by decide +kernel) ?_
  intro I24 hS25 e26 f27
  have c28 : I24 a0 0 = v1 := (f27 _ _ (fun q => absurd q.2 (by decide))).trans c20
  have c29 : I24 a0 1 = v7 := (f27 _ _ (fun q => absurd q.2 (by decide))).trans c21
  have c30 : I24 a0 3 = v14 := (f27 _ _ (fun q => absurd q.2 (by decide))).trans e18
  refine tr_aload_n dX0_clear_20 rfl ?_
  refine q_iconst dX0_clear_21 (by decide) ?_
  intro v31 h32
  refine q_putI dX0_clear_22 fl0_63 (kR2 hS25.1 ta0) (Or.inl rfl) hS25 ta0 (iokF rfl) rfl (by decide +kernel) ?_
  intro I33 hS34 e35 f36
  have c37 : I33 a0 0 = v1 := (f36 _ _ (fun q => absurd q.2 (by decide))).trans c28
  have c38 : I33 a0 1 = v7 := (f36 _ _ (fun q => absurd q.2 (by decide))).trans c29
  have c39 : I33 a0 3 = v14 := (f36 _ _ (fun q => absurd q.2 (by decide))).trans c30
  have c40 : I33 a0 5 = v22 := (f36 _ _ (fun q => absurd q.2 (by decide))).trans e26
  refine tr_aload_n dX0_clear_25 rfl ?_
  obtain ⟨a41, d42, ta41⟩ := rf2_8 hW0 ta0
  refine tr_getR dX0_clear_26 fl0_27 (kR2 hS34.1 ta0) d42 ?_
  refine q_iconst dX0_clear_29 (by decide) ?_
  intro v43 h44
  refine q_putI dX0_clear_30 fl0_66 (kR6 hS34.1 ta41) (Or.inl rfl) hS34 ta41 (by show (0 : Int) ≤ v43.toInt ∧ v43.toInt ≤ (8 : Int); omega) rfl (by decide +kernel) ?_
  intro I45 hS46 e47 f48
  have c49 : I45 a0 0 = v1 := (f48 _ _ (fun q => by have z := ta0; rw [q.1, ta41] at z; exact absurd z (by decide))).trans c37
  have c50 : I45 a0 1 = v7 := (f48 _ _ (fun q => absurd q.2 (by decide))).trans c38
  have c51 : I45 a0 3 = v14 := (f48 _ _ (fun q => absurd q.2 (by decide))).trans c39
  have c52 : I45 a0 5 = v22 := (f48 _ _ (fun q => absurd q.2 (by decide))).trans c40
  have c53 : I45 a0 7 = v31 := (f48 _ _ (fun q => absurd q.2 (by decide))).trans e35
  refine tr_aload_n dX0_clear_33 rfl ?_
  refine q_iconst dX0_clear_34 (by decide) ?_
  intro v54 h55
  refine q_putI dX0_clear_35 fl0_69 (kR2 hS46.1 ta0) (Or.inl rfl) hS46 ta0 (by show (0 : Int) ≤ v54.toInt ∧ v54.toInt ≤ (5 : Int); omega) rfl (by decide +kernel) ?_
  intro I56 hS57 e58 f59
  have c60 : I56 a0 0 = v1 := (f59 _ _ (fun q => absurd q.2 (by decide))).trans c49
  have c61 : I56 a0 1 = v7 := (f59 _ _ (fun q => absurd q.2 (by decide))).trans c50
  have c62 : I56 a0 3 = v14 := (f59 _ _ (fun q => absurd q.2 (by decide))).trans c51
  have c63 : I56 a0 5 = v22 := (f59 _ _ (fun q => absurd q.2 (by decide))).trans c52
  have c64 : I56 a0 7 = v31 := (f59 _ _ (fun q => absurd q.2 (by decide))).trans c53
  have c65 : I56 a41 0 = v43 := (f59 _ _ (fun q => absurd q.2 (by decide))).trans e47
  refine tr_aload_n dX0_clear_38 rfl ?_
  refine q_iconst dX0_clear_39 (by decide) ?_
  intro v66 h67
  refine q_putI dX0_clear_40 fl0_72 (kR2 hS57.1 ta0) (Or.inl rfl) hS57 ta0 (by show (0 : Int) ≤ v66.toInt ∧ v66.toInt ≤ (6 : Int); omega) rfl (by decide +kernel) ?_
  intro I68 hS69 e70 f71
  have c72 : I68 a0 0 = v1 := (f71 _ _ (fun q => absurd q.2 (by decide))).trans c60
  have c73 : I68 a0 1 = v7 := (f71 _ _ (fun q => absurd q.2 (by decide))).trans c61
  have c74 : I68 a0 3 = v14 := (f71 _ _ (fun q => absurd q.2 (by decide))).trans c62
  have c75 : I68 a0 5 = v22 := (f71 _ _ (fun q => absurd q.2 (by decide))).trans c63
  have c76 : I68 a0 7 = v31 := (f71 _ _ (fun q => absurd q.2 (by decide))).trans c64
  have c77 : I68 a41 0 = v43 := (f71 _ _ (fun q => absurd q.2 (by decide))).trans c65
  have c78 : I68 a0 9 = v54 := (f71 _ _ (fun q => absurd q.2 (by decide))).trans e58
  refine tr_aload_n dX0_clear_43 rfl ?_
  refine q_iconst dX0_clear_44 (by decide) ?_
  intro v79 h80
  refine q_putI dX0_clear_45 fl0_75 (kR2 hS69.1 ta0) (Or.inl rfl) hS69 ta0 (by show (0 : Int) ≤ v79.toInt ∧ v79.toInt ≤ (4 : Int); omega) rfl (by decide +kernel) ?_
  intro I81 hS82 e83 f84
  have c85 : I81 a0 0 = v1 := (f84 _ _ (fun q => absurd q.2 (by decide))).trans c72
  have c86 : I81 a0 1 = v7 := (f84 _ _ (fun q => absurd q.2 (by decide))).trans c73
  have c87 : I81 a0 3 = v14 := (f84 _ _ (fun q => absurd q.2 (by decide))).trans c74
  have c88 : I81 a0 5 = v22 := (f84 _ _ (fun q => absurd q.2 (by decide))).trans c75
  have c89 : I81 a0 7 = v31 := (f84 _ _ (fun q => absurd q.2 (by decide))).trans c76
  have c90 : I81 a41 0 = v43 := (f84 _ _ (fun q => absurd q.2 (by decide))).trans c77
  have c91 : I81 a0 9 = v54 := (f84 _ _ (fun q => absurd q.2 (by decide))).trans c78
  have c92 : I81 a0 11 = v66 := (f84 _ _ (fun q => absurd q.2 (by decide))).trans e70
  exact tr_vret hZ dX0_clear_48 rfl (by decide) (by decide) ⟨rfl, rfl, rfl, rfl, rfl, rfl, hS82, (by (try rw [c85]); first | done | omega), (by (try rw [c86]); first | done | omega), (by (try rw [c87]); first | done | omega), (by (try rw [c88]); first | done | omega), (by (try rw [c91]); first | done | omega), (by (try rw [c92]); first | done | omega), (by (try rw [e83]); first | done | omega), trivial⟩
def wik_X7_readAll : List Nat := [128, 129, 131, 133, 135, 137, 139, 141, 192, 193, 194, 195, 256, 257, 258, 259, 260, 261, 320, 321, 322, 323, 384, 449, 450, 451, 452, 454, 455, 456, 457, 459, 460, 463, 464, 1215, 1343, 1599]
def wrk_X7_readAll : List Nat := [458]
def wlk_X7_readAll : List Nat := [453, 1663, 1727]
set_option maxHeartbeats 4000000 in
theorem fk_X7_readAll {l : Launch} {T : Nat → Nat} {cn : Nat} {K N : Nat → Nat} {I0 : cz_I} {R0 : cz_R} {L0 : cz_L} {d : Int} (hW0 : Wf T cn K N I0 R0 d) (gB : cz_B) {a0 : Nat} (ta0 : T a0 = 7) {a1 : Nat} (ta1 : T a1 = 2) {x2 : Int32} (hx2 : 0 ≤ x2.toInt ∧ x2.toInt ≤ 900) (hT : ∀ t, R0 a0 0 = some t → Tx I0 t gB) (pre0 : x2.toInt = (gB.2)) : ConE l mX7_readAll [.ref a0, .ref a1, .int x2] cn K N I0 R0 L0 (ca_i (fun v cn' K' N' I' R' L' => cn = cn' ∧ K = K' ∧ N = N' ∧ St T cn K N d wik_X7_readAll wrk_X7_readAll I0 R0 I' R' ∧ LgS T wlk_X7_readAll L0 L' ∧ (0 ≤ v.toInt ∧ v.toInt ≤ 1) ∧ (((v.toInt = 1) ∧ ((lsF gB 901 0 Q00) = 0) ∧ ((I' a0 15).toInt = 0) ∧ ((I' a1 5).toInt = (lsC gB 901 0 Q00)) ∧ True) ∨ ((v.toInt = 0) ∧ ((lsF gB 901 0 Q00) ≠ 0) ∧ ((I' a0 15).toInt = (lsF gB 901 0 Q00)) ∧ ((I' a0 16).toInt = (lsP gB 901 0 Q00)) ∧ True)) ∧ True)) := by
  refine ConE.of (by decide +kernel) rfl (Nat.le_of_ble_eq_true rfl) rfl (fun X hX hZ hE => ?_)
  subst hX
  have hS0 : St T cn K N d wik_X7_readAll wrk_X7_readAll I0 R0 I0 R0 := St.rf0 hW0
  have hL0 : LgS T wlk_X7_readAll L0 L0 := LgS.rf0
  have p1 := pre0
  refine tr_aload_n dX7_readAll_0 rfl ?_
  refine tr_aload_n dX7_readAll_1 rfl ?_
  refine q_putR dX7_readAll_2 fl7_22 (kR7 hS0.1 ta0) (Or.inl rfl) hS0 ta0 (okR_in rfl rfl ta1) rfl (by decide +kernel) ?_
  intro R2 hS3 e4 f5
  refine tr_aload_n dX7_readAll_5 rfl ?_
  refine tr_getR dX7_readAll_6 fl7_22 (kR7 hS3.1 ta0) e4 ?_
  refine q_callVv hE (M' := mX0_clear) (as := []) dX7_readAll_9 lk7_26 inX0_clear seX0_clear myX0_clear (by decide) ⟨by decide, by decide⟩ rfl (kR2 hS3.1 ta1) (Nat.le_of_ble_eq_true rfl) rfl rfl (by decide) (by decide) (fk_X0_clear hS3.1  ta1) ?_
  rintro cn' K' N' I6 R7 L8 ⟨rfl, rfl, rfl, rfl, rfl, g9, p12, p13, p14, p15, p16, p17, p18, -⟩
  have hS19 := hS3.tr g9 (by decide +kernel) (by decide +kernel)
  obtain ⟨v20, c21⟩ : ∃ v, I6 a1 0 = v := ⟨_, rfl⟩
  have b22 := iv2_0 hS19.1 ta1 c21
  rw [c21] at p12
  obtain ⟨v23, c24⟩ : ∃ v, I6 a1 1 = v := ⟨_, rfl⟩
  have b25 := iv2_1 hS19.1 ta1 c24
  rw [c24] at p13
  obtain ⟨v26, c27⟩ : ∃ v, I6 a1 3 = v := ⟨_, rfl⟩
  have b28 := iv2_3 hS19.1 ta1 c27
  rw [c27] at p14
  obtain ⟨v29, c30⟩ : ∃ v, I6 a1 5 = v := ⟨_, rfl⟩
  have b31 := iv2_5 hS19.1 ta1 c30
  rw [c30] at p15
  obtain ⟨v32, c33⟩ : ∃ v, I6 a1 9 = v := ⟨_, rfl⟩
  have b34 := iv2_9 hS19.1 ta1 c33
  rw [c33] at p16
  obtain ⟨v35, c36⟩ : ∃ v, I6 a1 11 = v := ⟨_, rfl⟩
  have b37 := iv2_11 hS19.1 ta1 c36
  rw [c36] at p17
  obtain ⟨v38, c39⟩ : ∃ v, I6 a1 13 = v := ⟨_, rfl⟩
  have b40 := iv2_13 hS19.1 ta1 c39
  rw [c39] at p18
  refine tr_aload_n dX7_readAll_12 rfl ?_
  refine q_iconst dX7_readAll_13 (by decide) ?_
  intro v41 h42
  refine q_putZ dX7_readAll_14 fl7_31 (kR7 hS19.1 ta0) (Or.inl rfl) hS19 ta0 (by omega) (by show (0 : Int) ≤ v41.toInt ∧ v41.toInt ≤ (1 : Int); omega) rfl (by decide +kernel) ?_
  intro I43 hS44 e45 f46
  have c47 : I43 a1 0 = v20 := (f46 _ _ (fun q => absurd q.2 (by decide))).trans c21
  have c48 : I43 a1 1 = v23 := (f46 _ _ (fun q => absurd q.2 (by decide))).trans c24
  have c49 : I43 a1 3 = v26 := (f46 _ _ (fun q => absurd q.2 (by decide))).trans c27
  have c50 : I43 a1 5 = v29 := (f46 _ _ (fun q => absurd q.2 (by decide))).trans c30
  have c51 : I43 a1 9 = v32 := (f46 _ _ (fun q => absurd q.2 (by decide))).trans c33
  have c52 : I43 a1 11 = v35 := (f46 _ _ (fun q => by have z := ta1; rw [q.1, ta0] at z; exact absurd z (by decide))).trans c36
  have c53 : I43 a1 13 = v38 := (f46 _ _ (fun q => absurd q.2 (by decide))).trans c39
  refine tr_aload_n dX7_readAll_17 rfl ?_
  refine q_iconst dX7_readAll_18 (by decide) ?_
  intro v54 h55
  refine q_putZ dX7_readAll_19 fl7_35 (kR7 hS44.1 ta0) (Or.inl rfl) hS44 ta0 (by omega) (by show (0 : Int) ≤ v54.toInt ∧ v54.toInt ≤ (1 : Int); omega) rfl (by decide +kernel) ?_
  intro I56 hS57 e58 f59
  have c60 : I56 a1 0 = v20 := (f59 _ _ (fun q => absurd q.2 (by decide))).trans c47
  have c61 : I56 a1 1 = v23 := (f59 _ _ (fun q => absurd q.2 (by decide))).trans c48
  have c62 : I56 a1 3 = v26 := (f59 _ _ (fun q => absurd q.2 (by decide))).trans c49
  have c63 : I56 a1 5 = v29 := (f59 _ _ (fun q => absurd q.2 (by decide))).trans c50
  have c64 : I56 a1 9 = v32 := (f59 _ _ (fun q => absurd q.2 (by decide))).trans c51
  have c65 : I56 a1 11 = v35 := (f59 _ _ (fun q => absurd q.2 (by decide))).trans c52
  have c66 : I56 a1 13 = v38 := (f59 _ _ (fun q => absurd q.2 (by decide))).trans c53
  have c67 : I56 a0 11 = v41 := (f59 _ _ (fun q => absurd q.2 (by decide))).trans e45
  refine tr_aload_n dX7_readAll_22 rfl ?_
  refine q_iconst dX7_readAll_23 (by decide) ?_
  intro v68 h69
  refine q_putI dX7_readAll_24 fl7_38 (kR7 hS57.1 ta0) (Or.inl rfl) hS57 ta0 (iokF rfl) rfl (by decide +kernel) ?_
  intro I70 hS71 e72 f73
  have c74 : I70 a1 0 = v20 := (f73 _ _ (fun q => absurd q.2 (by decide))).trans c60
  have c75 : I70 a1 1 = v23 := (f73 _ _ (fun q => absurd q.2 (by decide))).trans c61
  have c76 : I70 a1 3 = v26 := (f73 _ _ (fun q => absurd q.2 (by decide))).trans c62
  have c77 : I70 a1 5 = v29 := (f73 _ _ (fun q => absurd q.2 (by decide))).trans c63
  have c78 : I70 a1 9 = v32 := (f73 _ _ (fun q => absurd q.2 (by decide))).trans c64
  have c79 : I70 a1 11 = v35 := (f73 _ _ (fun q => absurd q.2 (by decide))).trans c65
  have c80 : I70 a1 13 = v38 := (f73 _ _ (fun q => absurd q.2 (by decide))).trans c66
  have c81 : I70 a0 11 = v41 := (f73 _ _ (fun q => absurd q.2 (by decide))).trans c67
  have c82 : I70 a0 12 = v54 := (f73 _ _ (fun q => absurd q.2 (by decide))).trans e58
  refine tr_aload_n dX7_readAll_27 rfl ?_
  refine q_iconst dX7_readAll_28 (by decide) ?_
  intro v83 h84
  refine q_putI dX7_readAll_29 fl7_42 (kR7 hS71.1 ta0) (Or.inl rfl) hS71 ta0 (iokF rfl) rfl (by decide +kernel) ?_
  intro I85 hS86 e87 f88
  have c89 : I85 a1 0 = v20 := (f88 _ _ (fun q => absurd q.2 (by decide))).trans c74
  have c90 : I85 a1 1 = v23 := (f88 _ _ (fun q => absurd q.2 (by decide))).trans c75
  have c91 : I85 a1 3 = v26 := (f88 _ _ (fun q => absurd q.2 (by decide))).trans c76
  have c92 : I85 a1 5 = v29 := (f88 _ _ (fun q => absurd q.2 (by decide))).trans c77
  have c93 : I85 a1 9 = v32 := (f88 _ _ (fun q => absurd q.2 (by decide))).trans c78
  have c94 : I85 a1 11 = v35 := (f88 _ _ (fun q => absurd q.2 (by decide))).trans c79
  have c95 : I85 a1 13 = v38 := (f88 _ _ (fun q => absurd q.2 (by decide))).trans c80
  have c96 : I85 a0 11 = v41 := (f88 _ _ (fun q => absurd q.2 (by decide))).trans c81
  have c97 : I85 a0 12 = v54 := (f88 _ _ (fun q => absurd q.2 (by decide))).trans c82
  have c98 : I85 a0 15 = v68 := (f88 _ _ (fun q => absurd q.2 (by decide))).trans e72
  refine tr_aload_n dX7_readAll_32 rfl ?_
  refine tr_iload_n dX7_readAll_33 rfl ?_
  refine q_putI dX7_readAll_34 fl7_45 (kR7 hS86.1 ta0) (Or.inl rfl) hS86 ta0 (by show (0 : Int) ≤ x2.toInt ∧ x2.toInt ≤ (900 : Int); omega) rfl (by decide +kernel) ?_
  intro I99 hS100 e101 f102
  have c103 : I99 a1 0 = v20 := (f102 _ _ (fun q => absurd q.2 (by decide))).trans c89
  have c104 : I99 a1 1 = v23 := (f102 _ _ (fun q => by have z := ta1; rw [q.1, ta0] at z; exact absurd z (by decide))).trans c90
  have c105 : I99 a1 3 = v26 := (f102 _ _ (fun q => absurd q.2 (by decide))).trans c91
  have c106 : I99 a1 5 = v29 := (f102 _ _ (fun q => absurd q.2 (by decide))).trans c92
  have c107 : I99 a1 9 = v32 := (f102 _ _ (fun q => absurd q.2 (by decide))).trans c93
  have c108 : I99 a1 11 = v35 := (f102 _ _ (fun q => absurd q.2 (by decide))).trans c94
  have c109 : I99 a1 13 = v38 := (f102 _ _ (fun q => absurd q.2 (by decide))).trans c95
  have c110 : I99 a0 11 = v41 := (f102 _ _ (fun q => absurd q.2 (by decide))).trans c96
  have c111 : I99 a0 12 = v54 := (f102 _ _ (fun q => absurd q.2 (by decide))).trans c97
  have c112 : I99 a0 15 = v68 := (f102 _ _ (fun q => absurd q.2 (by decide))).trans c98
  have c113 : I99 a0 16 = v83 := (f102 _ _ (fun q => absurd q.2 (by decide))).trans e87
  refine tr_aload_n dX7_readAll_37 rfl ?_
  refine q_iconst dX7_readAll_38 (by decide) ?_
  intro v114 h115
  refine q_putI dX7_readAll_39 fl7_48 (kR7 hS100.1 ta0) (Or.inl rfl) hS100 ta0 (by show (0 : Int) ≤ v114.toInt ∧ v114.toInt ≤ (900 : Int); omega) rfl (by decide +kernel) ?_
  intro I116 hS117 e118 f119
  have c120 : I116 a1 0 = v20 := (f119 _ _ (fun q => absurd q.2 (by decide))).trans c103
  have c121 : I116 a1 1 = v23 := (f119 _ _ (fun q => absurd q.2 (by decide))).trans c104
  have c122 : I116 a1 3 = v26 := (f119 _ _ (fun q => absurd q.2 (by decide))).trans c105
  have c123 : I116 a1 5 = v29 := (f119 _ _ (fun q => absurd q.2 (by decide))).trans c106
  have c124 : I116 a1 9 = v32 := (f119 _ _ (fun q => absurd q.2 (by decide))).trans c107
  have c125 : I116 a1 11 = v35 := (f119 _ _ (fun q => absurd q.2 (by decide))).trans c108
  have c126 : I116 a1 13 = v38 := (f119 _ _ (fun q => absurd q.2 (by decide))).trans c109
  have c127 : I116 a0 11 = v41 := (f119 _ _ (fun q => absurd q.2 (by decide))).trans c110
  have c128 : I116 a0 12 = v54 := (f119 _ _ (fun q => absurd q.2 (by decide))).trans c111
  have c129 : I116 a0 15 = v68 := (f119 _ _ (fun q => absurd q.2 (by decide))).trans c112
  have c130 : I116 a0 16 = v83 := (f119 _ _ (fun q => absurd q.2 (by decide))).trans c113
  have c131 : I116 a0 1 = x2 := (f119 _ _ (fun q => absurd q.2 (by decide))).trans e101
  refine tr_aload_n dX7_readAll_42 rfl ?_
  refine q_callVv hE (M' := mX7_step) (as := []) dX7_readAll_43 lk7_51 inX7_step seX7_step myX7_step (by decide) ⟨by decide, by decide⟩ rfl (kR7 hS117.1 ta0) (Nat.le_of_ble_eq_true rfl) rfl rfl (by decide) (by decide) (fk_X7_step hS117.1 (gB) (0) ta0 (TxA.kp hT hS117 ta0 rfl rfl rfl (by decide +kernel) (by decide +kernel)) (by (try rw [e118]); first | done | omega) (by (try rw [c131]); first | done | omega)) ?_
  rintro cn' K' N' I132 R133 L134 ⟨rfl, rfl, rfl, rfl, g135, gl136, p138, p139, p140, p141, p142, -⟩
  have hS143 := hS117.tr g135 (by decide +kernel) (by decide +kernel)
  have c144 : I132 a1 0 = v20 := (g135.cell ta1 (by decide +kernel)).trans c120
  have c145 : I132 a1 1 = v23 := (g135.cell ta1 (by decide +kernel)).trans c121
  have c146 : I132 a1 3 = v26 := (g135.cell ta1 (by decide +kernel)).trans c122
  have c147 : I132 a1 5 = v29 := (g135.cell ta1 (by decide +kernel)).trans c123
  have c148 : I132 a1 9 = v32 := (g135.cell ta1 (by decide +kernel)).trans c124
  have c149 : I132 a1 11 = v35 := (g135.cell ta1 (by decide +kernel)).trans c125
  have c150 : I132 a1 13 = v38 := (g135.cell ta1 (by decide +kernel)).trans c126
  have c151 : I132 a0 11 = v41 := (g135.cell ta0 (by decide +kernel)).trans c127
  have c152 : I132 a0 12 = v54 := (g135.cell ta0 (by decide +kernel)).trans c128
  have c153 : I132 a0 15 = v68 := (g135.cell ta0 (by decide +kernel)).trans c129
  have c154 : I132 a0 16 = v83 := (g135.cell ta0 (by decide +kernel)).trans c130
  have c155 : I132 a0 1 = x2 := (g135.cell ta0 (by decide +kernel)).trans c131
  have hL156 := hL0.tr gl136 (by decide +kernel)
  obtain ⟨v157, c158⟩ : ∃ v, I132 a0 2 = v := ⟨_, rfl⟩
  have b159 := iv7_2 hS143.1 ta0 c158
  rw [c158] at p138
  obtain ⟨v160, c161⟩ : ∃ v, I132 a0 4 = v := ⟨_, rfl⟩
  have b162 := iv7_4 hS143.1 ta0 c161
  rw [c161] at p139
  obtain ⟨v163, c164⟩ : ∃ v, I132 a0 3 = v := ⟨_, rfl⟩
  have b165 := iv7_3 hS143.1 ta0 c164
  rw [c164] at p140
  obtain ⟨y166, c167⟩ : ∃ v, L134 a0 5 = v := ⟨_, rfl⟩
  rw [c167] at p141
  obtain ⟨v168, c169⟩ : ∃ v, I132 a0 6 = v := ⟨_, rfl⟩
  rw [c169] at p142
  have hN170 : NmC L134 R2 a0 Q00 := NmC.z0
  have q00_0 : Q00 0 = 0 := rfl
  have q00_1 : Q00 1 = 0 := rfl
  have q00_2 : Q00 2 = 0 := rfl
  have q00_3 : Q00 3 = 0 := rfl
  have q00_4 : Q00 4 = 0 := rfl
  have q00_5 : Q00 5 = 0 := rfl
  have q00_6 : Q00 6 = 0 := rfl
  have q00_7 : Q00 7 = 0 := rfl
  have q00_8 : Q00 8 = 0 := rfl
  refine q_iconst dX7_readAll_46 (by decide) ?_
  intro v171 h172
  refine tr_istore_n dX7_readAll_47 (by decide) (by decide) ?_
  have lp240 : ∀ (fu : Nat) (ls : Nat → Option Value) (v173 : Int32) (I178 : cz_I) (L179 : cz_L) (gs180 : Int) (gr181 : Nat) (gQ182 : Nat → Int) (v186 : Int32) (v188 : Int32) (v190 : Int32) (v192 : Int32) (v194 : Int32) (y196 : Int64) (v198 : Int32) (v200 : Int32) (v202 : Int32) (v204 : Int32) (v206 : Int32) (v208 : Int32) (v210 : Int32) (v212 : Int32) (v214 : Int32) (v216 : Int32), ls 0 = some (.ref a0) → ls 1 = some (.ref a1) → ls 2 = some (.int x2) → ls 3 = some (.int v173) → St T cn K N d wik_X7_readAll wrk_X7_readAll I0 R0 I178 R2 → LgS T wlk_X7_readAll L0 L179 → NmC L179 R2 a0 gQ182 → I178 a0 1 = v186 → I178 a0 15 = v188 → I178 a0 2 = v190 → I178 a0 4 = v192 → I178 a0 3 = v194 → L179 a0 5 = y196 → I178 a0 6 = v198 → I178 a1 0 = v200 → I178 a1 1 = v202 → I178 a1 3 = v204 → I178 a1 5 = v206 → I178 a1 9 = v208 → I178 a1 11 = v210 → I178 a1 13 = v212 → I178 a0 11 = v214 → I178 a0 12 = v216 → (lsF gB gr181 gs180 gQ182) = (lsF gB 901 0 Q00) → (lsP gB gr181 gs180 gQ182) = (lsP gB 901 0 Q00) → (lsC gB gr181 gs180 gQ182) = (lsC gB 901 0 Q00) → v186.toInt = (gB.2) → v188.toInt = 0 → 0 ≤ v173.toInt → v173.toInt ≤ 901 → ((gr181 : Int)) = -v173.toInt + 901 → v190.toInt = (tkN gB gs180) → v192.toInt = (tkS gB gs180) → v194.toInt = (tkK gB gs180) → (AtW ((tkK gB gs180)) (y196.toInt) ((tkW gB gs180))) → (AtV ((tkK gB gs180)) (v198.toInt) ((tkV gB gs180))) → v200.toInt = (gQ182 0) → v202.toInt = (gQ182 1) → v204.toInt = (gQ182 2) → v206.toInt = (gQ182 3) → v208.toInt = (gQ182 4) → v210.toInt = (gQ182 5) → v212.toInt = (gQ182 6) → v214.toInt = (gQ182 7) → v216.toInt = (gQ182 8) → (-v173.toInt + 901).toNat < fu → Tr X mX7_readAll 48 ls [] cn K N I178 R2 L179 0 0 := by
    intro fu
    induction fu with
    | zero => intros; rename_i hz; exact absurd hz (Nat.not_lt_zero _)
    | succ fu ih240 =>
      intro ls v173 I178 L179 gs180 gr181 gQ182 v186 v188 v190 v192 v194 y196 v198 v200 v202 v204 v206 v208 v210 v212 v214 v216 hl174 hl175 hl176 hl177 hS183 hL184 hN185 c187 c189 c191 c193 c195 c197 c199 c201 c203 c205 c207 c209 c211 c213 c215 c217 g218 g219 g220 g221 g222 g223 g224 g225 g226 g227 g228 g229 g230 g231 g232 g233 g234 g235 g236 g237 g238 g239 hm240
      have b242 := iv7_1 hS183.1 ta0 c187
      have b243 := iv7_2 hS183.1 ta0 c191
      have b244 := iv7_4 hS183.1 ta0 c193
      have b245 := iv7_3 hS183.1 ta0 c195
      have b246 := iv2_0 hS183.1 ta1 c201
      have b247 := iv2_1 hS183.1 ta1 c203
      have b248 := iv2_3 hS183.1 ta1 c205
      have b249 := iv2_5 hS183.1 ta1 c207
      have b250 := iv2_9 hS183.1 ta1 c209
      have b251 := iv2_11 hS183.1 ta1 c211
      have b252 := iv2_13 hS183.1 ta1 c213
      have b253 := iv7_11 hS183.1 ta0 c215
      have b254 := iv7_12 hS183.1 ta0 c217
      rcases Nat.eq_zero_or_pos gr181 with hz255 | hz255
      · skip
        subst hz255
        refine tr_iload_n dX7_readAll_48 hl177 ?_
        refine q_sipush dX7_readAll_49 (by decide +kernel) ?_
        intro v257 h258
        refine q_icmp_gt 120 dX7_readAll_52 (by decide) (fun h259 => ?_) (fun h259 => ?_)
        · skip
          refine tr_aload_n dX7_readAll_120 hl174 ?_
          refine q_iconst dX7_readAll_121 (by decide) ?_
          intro v260 h261
          refine q_callVi hE (M' := mX7_fail) (as := [_]) dX7_readAll_122 lk7_64 inX7_fail seX7_fail myX7_fail (by decide) ⟨by decide, by decide⟩ rfl (kR7 hS183.1 ta0) (Nat.le_of_ble_eq_true rfl) rfl rfl (by decide) (by decide) (fk_X7_fail hS183.1  ta0 (by omega)) ?_
          rintro v267 cn' K' N' I262 R263 L264 ⟨rfl, rfl, rfl, rfl, rfl, g265, h268, p269, p270, p271, -⟩
          have hS272 := hS183.tr g265 (by decide +kernel) (by decide +kernel)
          have c273 : I262 a0 1 = v186 := (g265.cell ta0 (by decide +kernel)).trans c187
          have c274 : I262 a0 2 = v190 := (g265.cell ta0 (by decide +kernel)).trans c191
          have c275 : I262 a0 4 = v192 := (g265.cell ta0 (by decide +kernel)).trans c193
          have c276 : I262 a0 3 = v194 := (g265.cell ta0 (by decide +kernel)).trans c195
          have c277 : I262 a0 6 = v198 := (g265.cell ta0 (by decide +kernel)).trans c199
          have c278 : I262 a1 0 = v200 := (g265.cell ta1 (by decide +kernel)).trans c201
          have c279 : I262 a1 1 = v202 := (g265.cell ta1 (by decide +kernel)).trans c203
          have c280 : I262 a1 3 = v204 := (g265.cell ta1 (by decide +kernel)).trans c205
          have c281 : I262 a1 5 = v206 := (g265.cell ta1 (by decide +kernel)).trans c207
          have c282 : I262 a1 9 = v208 := (g265.cell ta1 (by decide +kernel)).trans c209
          have c283 : I262 a1 11 = v210 := (g265.cell ta1 (by decide +kernel)).trans c211
          have c284 : I262 a1 13 = v212 := (g265.cell ta1 (by decide +kernel)).trans c213
          have c285 : I262 a0 11 = v214 := (g265.cell ta0 (by decide +kernel)).trans c215
          have c286 : I262 a0 12 = v216 := (g265.cell ta0 (by decide +kernel)).trans c217
          obtain ⟨v287, c288⟩ : ∃ v, I262 a0 15 = v := ⟨_, rfl⟩
          rw [c288] at p270
          obtain ⟨v289, c290⟩ : ∃ v, I262 a0 16 = v := ⟨_, rfl⟩
          rw [c290] at p271
          rw [c193] at p271
          exact tr_zret hZ dX7_readAll_125 rfl (ti_b01 (by omega) (by omega)) (by decide) (by decide) ⟨v267, rfl, rfl, rfl, rfl, hS272, hL184, (by omega), (Or.inr (⟨(by first | done | omega), (by rw [← g218]; simp only [lsF, ↓reduceIte]; repeat' (first | split | omega)), (by (try rw [c288]); rw [← g218]; simp only [lsF, ↓reduceIte]; repeat' (first | split | omega)), (by (try rw [c290]); rw [← g219]; simp only [lsP, ↓reduceIte]; repeat' (first | split | omega)), trivial⟩)), trivial⟩
        · skip
          exfalso; omega
      · skip
        obtain ⟨gk256, rfl⟩ : ∃ k, gr181 = k + 1 := ⟨gr181 - 1, by omega⟩
        refine tr_iload_n dX7_readAll_48 hl177 ?_
        refine q_sipush dX7_readAll_49 (by decide +kernel) ?_
        intro v291 h292
        refine q_icmp_gt 120 dX7_readAll_52 (by decide) (fun h293 => ?_) (fun h293 => ?_)
        · skip
          exfalso; omega
        · skip
          refine tr_aload_n dX7_readAll_55 hl174 ?_
          refine q_callVi hE (M' := mX7_readLine) (as := []) dX7_readAll_56 lk7_54 inX7_readLine seX7_readLine myX7_readLine (by decide) ⟨by decide, by decide⟩ rfl (kR7 hS183.1 ta0) (Nat.le_of_ble_eq_true rfl) rfl rfl (by decide) (by decide) (fk_X7_readLine hS183.1 (gB) (gs180) (gQ182) ta0 (TxA.kp hT hS183 ta0 rfl rfl rfl (by decide +kernel) (by decide +kernel)) hN185 (by (try rw [c191]); first | done | omega) (by (try rw [c193]); first | done | omega) (by (try rw [c195]); first | done | omega) (by (try rw [c197]); first | done | assumption) (by (try rw [c199]); first | done | assumption) (by (try rw [c187]); first | done | omega) (fun q0 z0 => by obtain rfl := Option.some.inj ((e4).symm.trans z0); (try rw [c201]); first | done | omega) (fun q0 z0 => by obtain rfl := Option.some.inj ((e4).symm.trans z0); (try rw [c203]); first | done | omega) (fun q0 z0 => by obtain rfl := Option.some.inj ((e4).symm.trans z0); (try rw [c205]); first | done | omega) (fun q0 z0 => by obtain rfl := Option.some.inj ((e4).symm.trans z0); (try rw [c207]); first | done | omega) (fun q0 z0 => by obtain rfl := Option.some.inj ((e4).symm.trans z0); (try rw [c209]); first | done | omega) (fun q0 z0 => by obtain rfl := Option.some.inj ((e4).symm.trans z0); (try rw [c211]); first | done | omega) (fun q0 z0 => by obtain rfl := Option.some.inj ((e4).symm.trans z0); (try rw [c213]); first | done | omega) (by (try rw [c215]); first | done | omega) (by (try rw [c217]); first | done | omega)) ?_
          rintro v299 cn' K' N' I294 R295 L296 ⟨rfl, rfl, rfl, rfl, g297, gl298, h300, dj301, -⟩
          have hS302 := hS183.tr g297 (by decide +kernel) (by decide +kernel)
          have c303 : I294 a0 1 = v186 := (g297.cell ta0 (by decide +kernel)).trans c187
          have hL304 := hL184.tr gl298 (by decide +kernel)
          rcases dj301 with ⟨p305, p306, p307, p308, p309, p310, p311, p312, p313, p314, p315, p316, p317, p318, p319, p320, p321, rp322, -⟩ | ⟨p323, p324, p325, p326, -⟩
          · skip
            obtain ⟨v327, c328⟩ : ∃ v, I294 a0 15 = v := ⟨_, rfl⟩
            rw [c328] at p306
            rw [c189] at p306
            obtain ⟨v329, c330⟩ : ∃ v, I294 a1 0 = v := ⟨_, rfl⟩
            have b331 := iv2_0 hS302.1 ta1 c330
            have p332 := p308 _ e4
            clear p308
            rw [c330] at p332
            obtain ⟨v333, c334⟩ : ∃ v, I294 a1 1 = v := ⟨_, rfl⟩
            have b335 := iv2_1 hS302.1 ta1 c334
            have p336 := p309 _ e4
            clear p309
            rw [c334] at p336
            obtain ⟨v337, c338⟩ : ∃ v, I294 a1 3 = v := ⟨_, rfl⟩
            have b339 := iv2_3 hS302.1 ta1 c338
            have p340 := p310 _ e4
            clear p310
            rw [c338] at p340
            obtain ⟨v341, c342⟩ : ∃ v, I294 a1 5 = v := ⟨_, rfl⟩
            have b343 := iv2_5 hS302.1 ta1 c342
            have p344 := p311 _ e4
            clear p311
            rw [c342] at p344
            obtain ⟨v345, c346⟩ : ∃ v, I294 a1 9 = v := ⟨_, rfl⟩
            have b347 := iv2_9 hS302.1 ta1 c346
            have p348 := p312 _ e4
            clear p312
            rw [c346] at p348
            obtain ⟨v349, c350⟩ : ∃ v, I294 a1 11 = v := ⟨_, rfl⟩
            have b351 := iv2_11 hS302.1 ta1 c350
            have p352 := p313 _ e4
            clear p313
            rw [c350] at p352
            obtain ⟨v353, c354⟩ : ∃ v, I294 a1 13 = v := ⟨_, rfl⟩
            have b355 := iv2_13 hS302.1 ta1 c354
            have p356 := p314 _ e4
            clear p314
            rw [c354] at p356
            obtain ⟨v357, c358⟩ : ∃ v, I294 a0 11 = v := ⟨_, rfl⟩
            have b359 := iv7_11 hS302.1 ta0 c358
            rw [c358] at p315
            obtain ⟨v360, c361⟩ : ∃ v, I294 a0 12 = v := ⟨_, rfl⟩
            have b362 := iv7_12 hS302.1 ta0 c361
            rw [c361] at p316
            obtain ⟨v363, c364⟩ : ∃ v, I294 a0 2 = v := ⟨_, rfl⟩
            have b365 := iv7_2 hS302.1 ta0 c364
            rw [c364] at p317
            obtain ⟨v366, c367⟩ : ∃ v, I294 a0 4 = v := ⟨_, rfl⟩
            have b368 := iv7_4 hS302.1 ta0 c367
            rw [c367] at p318
            obtain ⟨v369, c370⟩ : ∃ v, I294 a0 3 = v := ⟨_, rfl⟩
            have b371 := iv7_3 hS302.1 ta0 c370
            rw [c370] at p319
            obtain ⟨y372, c373⟩ : ∃ v, L296 a0 5 = v := ⟨_, rfl⟩
            rw [c373] at p320
            obtain ⟨v374, c375⟩ : ∃ v, I294 a0 6 = v := ⟨_, rfl⟩
            rw [c375] at p321
            refine q_if_ne 64 dX7_readAll_59 (by decide) (fun h376 => ?_) (fun h376 => ?_)
            · skip
              refine tr_aload_n dX7_readAll_64 hl174 ?_
              refine q_getI dX7_readAll_65 fl7_58 (kR7 hS302.1 ta0) c370 ?_
              refine q_if_ne 96 dX7_readAll_68 (by decide) (fun h377 => ?_) (fun h377 => ?_)
              · skip
                refine tr_aload_n dX7_readAll_96 hl174 ?_
                refine q_getI dX7_readAll_97 fl7_58 (kR7 hS302.1 ta0) c370 ?_
                refine q_iconst dX7_readAll_100 (by decide) ?_
                intro v378 h379
                refine q_icmp_eq 110 dX7_readAll_101 (by decide) (fun h380 => ?_) (fun h380 => ?_)
                · skip
                  refine tr_aload_n dX7_readAll_110 hl174 ?_
                  refine q_callVv hE (M' := mX7_step) (as := []) dX7_readAll_111 lk7_51 inX7_step seX7_step myX7_step (by decide) ⟨by decide, by decide⟩ rfl (kR7 hS302.1 ta0) (Nat.le_of_ble_eq_true rfl) rfl rfl (by decide) (by decide) (fk_X7_step hS302.1 (gB) ((tkN gB (lnS gB gQ182 gs180))) ta0 (TxA.kp hT hS302 ta0 rfl rfl rfl (by decide +kernel) (by decide +kernel)) (by (try rw [c364]); first | done | omega) (by (try rw [c303]); first | done | omega)) ?_
                  rintro cn' K' N' I381 R382 L383 ⟨rfl, rfl, rfl, rfl, g384, gl385, p387, p388, p389, p390, p391, -⟩
                  have hS392 := hS302.tr g384 (by decide +kernel) (by decide +kernel)
                  have c393 : I381 a0 1 = v186 := (g384.cell ta0 (by decide +kernel)).trans c303
                  have c394 : I381 a0 15 = v327 := (g384.cell ta0 (by decide +kernel)).trans c328
                  have c395 : I381 a1 0 = v329 := (g384.cell ta1 (by decide +kernel)).trans c330
                  have c396 : I381 a1 1 = v333 := (g384.cell ta1 (by decide +kernel)).trans c334
                  have c397 : I381 a1 3 = v337 := (g384.cell ta1 (by decide +kernel)).trans c338
                  have c398 : I381 a1 5 = v341 := (g384.cell ta1 (by decide +kernel)).trans c342
                  have c399 : I381 a1 9 = v345 := (g384.cell ta1 (by decide +kernel)).trans c346
                  have c400 : I381 a1 11 = v349 := (g384.cell ta1 (by decide +kernel)).trans c350
                  have c401 : I381 a1 13 = v353 := (g384.cell ta1 (by decide +kernel)).trans c354
                  have c402 : I381 a0 11 = v357 := (g384.cell ta0 (by decide +kernel)).trans c358
                  have c403 : I381 a0 12 = v360 := (g384.cell ta0 (by decide +kernel)).trans c361
                  have hL404 := hL304.tr gl385 (by decide +kernel)
                  have hN405 : NmC L383 R2 a0 (lnQ gB gQ182 gs180) := NmC.kp rp322 gl385 hS392.1 ta0 (by decide +kernel) (by decide +kernel)
                  obtain ⟨v406, c407⟩ : ∃ v, I381 a0 2 = v := ⟨_, rfl⟩
                  have b408 := iv7_2 hS392.1 ta0 c407
                  rw [c407] at p387
                  obtain ⟨v409, c410⟩ : ∃ v, I381 a0 4 = v := ⟨_, rfl⟩
                  have b411 := iv7_4 hS392.1 ta0 c410
                  rw [c410] at p388
                  obtain ⟨v412, c413⟩ : ∃ v, I381 a0 3 = v := ⟨_, rfl⟩
                  have b414 := iv7_3 hS392.1 ta0 c413
                  rw [c413] at p389
                  obtain ⟨y415, c416⟩ : ∃ v, L383 a0 5 = v := ⟨_, rfl⟩
                  rw [c416] at p390
                  obtain ⟨v417, c418⟩ : ∃ v, I381 a0 6 = v := ⟨_, rfl⟩
                  rw [c418] at p391
                  refine q_iincE dX7_readAll_114 hl177 (by decide) (by decide) (by intros; omega) ?_
                  intro v419 h420
                  refine tr_goto 48 dX7_readAll_117 (by decide) ?_
                  exact ih240 _ v419 I381 L383 ((tkN gB (lnS gB gQ182 gs180))) (gk256) ((lnQ gB gQ182 gs180)) v186 v327 v406 v409 v412 y415 v417 v329 v333 v337 v341 v345 v349 v353 v357 v360 hl174 hl175 hl176 rfl hS392 hL404 hN405 c393 c394 c407 c410 c413 c416 c418 c395 c396 c397 c398 c399 c400 c401 c402 c403 (by rw [← g218]; simp only [lsF, ↓reduceIte]; repeat' (first | split | omega)) (by rw [← g219]; simp only [lsP, ↓reduceIte]; repeat' (first | split | omega)) (by rw [← g220]; simp only [lsC, ↓reduceIte]; repeat' (first | split | omega)) (by omega) (by omega) (by omega) (by omega) (by omega) (by omega) (by omega) (by omega) (by assumption) (by assumption) (by omega) (by omega) (by omega) (by omega) (by omega) (by omega) (by omega) (by omega) (by omega) (by omega)
                · skip
                  refine tr_aload_n dX7_readAll_104 hl174 ?_
                  refine q_iconst dX7_readAll_105 (by decide) ?_
                  intro v421 h422
                  refine q_callVi hE (M' := mX7_fail) (as := [_]) dX7_readAll_106 lk7_64 inX7_fail seX7_fail myX7_fail (by decide) ⟨by decide, by decide⟩ rfl (kR7 hS302.1 ta0) (Nat.le_of_ble_eq_true rfl) rfl rfl (by decide) (by decide) (fk_X7_fail hS302.1  ta0 (by omega)) ?_
                  rintro v428 cn' K' N' I423 R424 L425 ⟨rfl, rfl, rfl, rfl, rfl, g426, h429, p430, p431, p432, -⟩
                  have hS433 := hS302.tr g426 (by decide +kernel) (by decide +kernel)
                  have c434 : I423 a0 1 = v186 := (g426.cell ta0 (by decide +kernel)).trans c303
                  have c435 : I423 a1 0 = v329 := (g426.cell ta1 (by decide +kernel)).trans c330
                  have c436 : I423 a1 1 = v333 := (g426.cell ta1 (by decide +kernel)).trans c334
                  have c437 : I423 a1 3 = v337 := (g426.cell ta1 (by decide +kernel)).trans c338
                  have c438 : I423 a1 5 = v341 := (g426.cell ta1 (by decide +kernel)).trans c342
                  have c439 : I423 a1 9 = v345 := (g426.cell ta1 (by decide +kernel)).trans c346
                  have c440 : I423 a1 11 = v349 := (g426.cell ta1 (by decide +kernel)).trans c350
                  have c441 : I423 a1 13 = v353 := (g426.cell ta1 (by decide +kernel)).trans c354
                  have c442 : I423 a0 11 = v357 := (g426.cell ta0 (by decide +kernel)).trans c358
                  have c443 : I423 a0 12 = v360 := (g426.cell ta0 (by decide +kernel)).trans c361
                  have c444 : I423 a0 2 = v363 := (g426.cell ta0 (by decide +kernel)).trans c364
                  have c445 : I423 a0 4 = v366 := (g426.cell ta0 (by decide +kernel)).trans c367
                  have c446 : I423 a0 3 = v369 := (g426.cell ta0 (by decide +kernel)).trans c370
                  have c447 : I423 a0 6 = v374 := (g426.cell ta0 (by decide +kernel)).trans c375
                  obtain ⟨v448, c449⟩ : ∃ v, I423 a0 15 = v := ⟨_, rfl⟩
                  rw [c449] at p431
                  obtain ⟨v450, c451⟩ : ∃ v, I423 a0 16 = v := ⟨_, rfl⟩
                  rw [c451] at p432
                  rw [c367] at p432
                  exact tr_zret hZ dX7_readAll_109 rfl (ti_b01 (by omega) (by omega)) (by decide) (by decide) ⟨v428, rfl, rfl, rfl, rfl, hS433, hL304, (by omega), (Or.inr (⟨(by first | done | omega), (by rw [← g218]; simp only [lsF, ↓reduceIte]; repeat' (first | split | omega)), (by (try rw [c449]); rw [← g218]; simp only [lsF, ↓reduceIte]; repeat' (first | split | omega)), (by (try rw [c451]); rw [← g219]; simp only [lsP, ↓reduceIte]; repeat' (first | split | omega)), trivial⟩)), trivial⟩
              · skip
                refine tr_aload_n dX7_readAll_71 hl174 ?_
                refine tr_getR dX7_readAll_72 fl7_22 (kR7 hS302.1 ta0) e4 ?_
                refine q_getI dX7_readAll_75 fl7_61 (kR2 hS302.1 ta1) c342 ?_
                refine q_if_gt 90 dX7_readAll_78 (by decide) (fun h452 => ?_) (fun h452 => ?_)
                · skip
                  refine q_iconst dX7_readAll_90 (by decide) ?_
                  intro v453 h454
                  refine tr_goto 95 dX7_readAll_91 (by decide) ?_
                  obtain ⟨v455, c456⟩ : ∃ v, I294 a0 16 = v := ⟨_, rfl⟩
                  exact tr_zret hZ dX7_readAll_95 rfl (ti_b01 (by omega) (by omega)) (by decide) (by decide) ⟨v453, rfl, rfl, rfl, rfl, hS302, hL304, (by omega), (Or.inl ⟨(by first | done | omega), (by rw [← g218]; simp only [lsF, ↓reduceIte]; repeat' (first | split | omega)), (by (try rw [c328]); first | done | omega), (by (try rw [c342]); rw [← g220]; simp only [lsC, ↓reduceIte]; repeat' (first | split | omega)), trivial⟩), trivial⟩
                · skip
                  refine tr_aload_n dX7_readAll_81 hl174 ?_
                  refine q_bipush dX7_readAll_82 (by decide +kernel) ?_
                  intro v457 h458
                  refine q_callVi hE (M' := mX7_fail) (as := [_]) dX7_readAll_84 lk7_64 inX7_fail seX7_fail myX7_fail (by decide) ⟨by decide, by decide⟩ rfl (kR7 hS302.1 ta0) (Nat.le_of_ble_eq_true rfl) rfl rfl (by decide) (by decide) (fk_X7_fail hS302.1  ta0 (by omega)) ?_
                  rintro v464 cn' K' N' I459 R460 L461 ⟨rfl, rfl, rfl, rfl, rfl, g462, h465, p466, p467, p468, -⟩
                  have hS469 := hS302.tr g462 (by decide +kernel) (by decide +kernel)
                  have c470 : I459 a0 1 = v186 := (g462.cell ta0 (by decide +kernel)).trans c303
                  have c471 : I459 a1 0 = v329 := (g462.cell ta1 (by decide +kernel)).trans c330
                  have c472 : I459 a1 1 = v333 := (g462.cell ta1 (by decide +kernel)).trans c334
                  have c473 : I459 a1 3 = v337 := (g462.cell ta1 (by decide +kernel)).trans c338
                  have c474 : I459 a1 5 = v341 := (g462.cell ta1 (by decide +kernel)).trans c342
                  have c475 : I459 a1 9 = v345 := (g462.cell ta1 (by decide +kernel)).trans c346
                  have c476 : I459 a1 11 = v349 := (g462.cell ta1 (by decide +kernel)).trans c350
                  have c477 : I459 a1 13 = v353 := (g462.cell ta1 (by decide +kernel)).trans c354
                  have c478 : I459 a0 11 = v357 := (g462.cell ta0 (by decide +kernel)).trans c358
                  have c479 : I459 a0 12 = v360 := (g462.cell ta0 (by decide +kernel)).trans c361
                  have c480 : I459 a0 2 = v363 := (g462.cell ta0 (by decide +kernel)).trans c364
                  have c481 : I459 a0 4 = v366 := (g462.cell ta0 (by decide +kernel)).trans c367
                  have c482 : I459 a0 3 = v369 := (g462.cell ta0 (by decide +kernel)).trans c370
                  have c483 : I459 a0 6 = v374 := (g462.cell ta0 (by decide +kernel)).trans c375
                  obtain ⟨v484, c485⟩ : ∃ v, I459 a0 15 = v := ⟨_, rfl⟩
                  rw [c485] at p467
                  obtain ⟨v486, c487⟩ : ∃ v, I459 a0 16 = v := ⟨_, rfl⟩
                  rw [c487] at p468
                  rw [c367] at p468
                  refine q_if_eq 94 dX7_readAll_87 (by decide) (fun h488 => ?_) (fun h488 => ?_)
                  · skip
                    refine q_iconst dX7_readAll_94 (by decide) ?_
                    intro v489 h490
                    exact tr_zret hZ dX7_readAll_95 rfl (ti_b01 (by omega) (by omega)) (by decide) (by decide) ⟨v489, rfl, rfl, rfl, rfl, hS469, hL304, (by omega), (Or.inr (⟨(by first | done | omega), (by rw [← g218]; simp only [lsF, ↓reduceIte]; repeat' (first | split | omega)), (by (try rw [c485]); rw [← g218]; simp only [lsF, ↓reduceIte]; repeat' (first | split | omega)), (by (try rw [c487]); rw [← g219]; simp only [lsP, ↓reduceIte]; repeat' (first | split | omega)), trivial⟩)), trivial⟩
                  · skip
                    exfalso; omega
            · skip
              exfalso; omega
          · skip
            obtain ⟨v491, c492⟩ : ∃ v, I294 a0 15 = v := ⟨_, rfl⟩
            rw [c492] at p325
            obtain ⟨v493, c494⟩ : ∃ v, I294 a0 16 = v := ⟨_, rfl⟩
            rw [c494] at p326
            refine q_if_ne 64 dX7_readAll_59 (by decide) (fun h495 => ?_) (fun h495 => ?_)
            · skip
              exfalso; omega
            · skip
              refine q_iconst dX7_readAll_62 (by decide) ?_
              intro v496 h497
              obtain ⟨v498, c499⟩ : ∃ v, I294 a1 5 = v := ⟨_, rfl⟩
              have b500 := iv2_5 hS302.1 ta1 c499
              exact tr_zret hZ dX7_readAll_63 rfl (ti_b01 (by omega) (by omega)) (by decide) (by decide) ⟨v496, rfl, rfl, rfl, rfl, hS302, hL304, (by omega), (Or.inr (⟨(by first | done | omega), (by rw [← g218]; simp only [lsF, ↓reduceIte]; repeat' (first | split | omega)), (by (try rw [c492]); rw [← g218]; simp only [lsF, ↓reduceIte]; repeat' (first | split | omega)), (by (try rw [c494]); rw [← g219]; simp only [lsP, ↓reduceIte]; repeat' (first | split | omega)), trivial⟩)), trivial⟩
  exact lp240 _ _ v171 I132 L134 (0) (901) (Q00) x2 v68 v157 v160 v163 y166 v168 v20 v23 v26 v29 v32 v35 v38 v41 v54 rfl rfl rfl rfl hS143 hL156 hN170 c155 c153 c158 c161 c164 c167 c169 c144 c145 c146 c147 c148 c149 c150 c151 c152 (by first | rfl | (congr 1; omega) | (congr 2 <;> omega)) (by first | rfl | (congr 1; omega) | (congr 2 <;> omega)) (by first | rfl | (congr 1; omega) | (congr 2 <;> omega)) (by omega) (by omega) (by omega) (by omega) (by omega) (by omega) (by omega) (by omega) (by assumption) (by assumption) (by omega) (by omega) (by omega) (by omega) (by omega) (by omega) (by omega) (by omega) (by omega) (Nat.lt_succ_self _)
def wik_X10_refused : List Nat := [81]
def wrk_X10_refused : List Nat := []
set_option maxHeartbeats 4000000 in
theorem fk_X10_refused {l : Launch} {T : Nat → Nat} {cn : Nat} {K N : Nat → Nat} {I0 : cz_I} {R0 : cz_R} {L0 : cz_L} {d : Int} (hW0 : Wf T cn K N I0 R0 d)  {a0 : Nat} (ta0 : T a0 = 1) {x1 : Int32} : ConE l mX10_refused [.ref a0, .int x1] cn K N I0 R0 L0 (ca_i (fun v cn' K' N' I' R' L' => cn = cn' ∧ K = K' ∧ N = N' ∧ R0 = R' ∧ L0 = L' ∧ St T cn K N d wik_X10_refused wrk_X10_refused I0 R0 I' R0 ∧ (v.toInt = -1) ∧ ((I' a0 17).toInt = x1.toInt) ∧ True)) := by
  refine ConE.of (by decide +kernel) rfl (Nat.le_of_ble_eq_true rfl) rfl (fun X hX hZ hE => ?_)
  subst hX
  have hS0 : St T cn K N d wik_X10_refused wrk_X10_refused I0 R0 I0 R0 := St.rf0 hW0
  refine tr_aload_n dX10_refused_0 rfl ?_
  refine tr_iload_n dX10_refused_1 rfl ?_
  refine q_putI dX10_refused_2 fl10_112 (kR1 hS0.1 ta0) (Or.inl rfl) hS0 ta0 (iokF rfl) rfl (by decide +kernel) ?_
  intro I1 hS2 e3 f4
  refine q_iconst dX10_refused_5 (by decide) ?_
  intro v5 h6
  exact tr_iret hZ dX10_refused_6 rfl (by decide) (by decide) ⟨v5, rfl, rfl, rfl, rfl, rfl, rfl, hS2, (by first | done | omega), (by (try rw [e3]); first | done | omega), trivial⟩
def wik_X10_answered : List Nat := [81]
def wrk_X10_answered : List Nat := []
set_option maxHeartbeats 4000000 in
theorem fk_X10_answered {l : Launch} {T : Nat → Nat} {cn : Nat} {K N : Nat → Nat} {I0 : cz_I} {R0 : cz_R} {L0 : cz_L} {d : Int} (hW0 : Wf T cn K N I0 R0 d)  {a0 : Nat} (ta0 : T a0 = 1) {x1 : Int32} : ConE l mX10_answered [.ref a0, .int x1] cn K N I0 R0 L0 (ca_i (fun v cn' K' N' I' R' L' => cn = cn' ∧ K = K' ∧ N = N' ∧ R0 = R' ∧ L0 = L' ∧ St T cn K N d wik_X10_answered wrk_X10_answered I0 R0 I' R0 ∧ (v.toInt = x1.toInt) ∧ ((I' a0 17).toInt = 0) ∧ True)) := by
  refine ConE.of (by decide +kernel) rfl (Nat.le_of_ble_eq_true rfl) rfl (fun X hX hZ hE => ?_)
  subst hX
  have hS0 : St T cn K N d wik_X10_answered wrk_X10_answered I0 R0 I0 R0 := St.rf0 hW0
  refine tr_aload_n dX10_answered_0 rfl ?_
  refine q_iconst dX10_answered_1 (by decide) ?_
  intro v1 h2
  refine q_putI dX10_answered_2 fl10_112 (kR1 hS0.1 ta0) (Or.inl rfl) hS0 ta0 (iokF rfl) rfl (by decide +kernel) ?_
  intro I3 hS4 e5 f6
  refine tr_iload_n dX10_answered_5 rfl ?_
  exact tr_iret hZ dX10_answered_6 rfl (by decide) (by decide) ⟨x1, rfl, rfl, rfl, rfl, rfl, rfl, hS4, (by first | done | omega), (by (try rw [e5]); first | done | omega), trivial⟩
