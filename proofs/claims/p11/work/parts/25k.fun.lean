def wik_X0_clear : List Nat := [128, 129, 131, 133, 135, 137, 139, 141, 384]
def wrk_X0_clear : List Nat := []
set_option maxHeartbeats 4000000 in
theorem fk_X0_clear {l : Launch} {T : Nat → Nat} {cn : Nat} {K N : Nat → Nat} {I0 : cz_I} {R0 : cz_R} {L0 : cz_L} {d : Int} (hW0 : Wf T cn K N I0 R0 d)  {a0 : Nat} (ta0 : T a0 = 2) : ConE l mX0_clear [.ref a0] cn K N I0 R0 L0 (ca_v (fun cn' K' N' I' R' L' => cn = cn' ∧ K = K' ∧ N = N' ∧ R0 = R' ∧ L0 = L' ∧ St T cn K N d wik_X0_clear wrk_X0_clear I0 R0 I' R0 ∧ ((I' a0 0).toInt = 0) ∧ ((I' a0 1).toInt = 0) ∧ ((I' a0 3).toInt = 0) ∧ ((I' a0 5).toInt = 0) ∧ ((I' a0 9).toInt = 0) ∧ ((I' a0 11).toInt = 0) ∧ ((I' a0 13).toInt = 0) ∧ ((I' a0 7).toInt = 0) ∧ (∀ b1, R0 a0 8 = some b1 → (I' b1 0).toInt = 0) ∧ (FrK R0 a0 (fun _ => True) T I0 I') ∧ (FrO 2 a0 T I0 I') ∧ True)) := by
  refine ConE.of (by decide +kernel) rfl (Nat.le_of_ble_eq_true rfl) rfl (fun X hX hZ hE => ?_)
  subst hX
  have hS0 : St T cn K N d wik_X0_clear wrk_X0_clear I0 R0 I0 R0 := St.rf0 hW0
  have hO0 : FrO 2 a0 T I0 I0 := FrO.rf
  obtain ⟨a1, d2, ta1⟩ := rf2_8 hW0 ta0
  refine tr_aload_n dX0_clear_0 rfl ?_
  refine q_iconst dX0_clear_1 (by decide) ?_
  intro v3 h4
  refine q_putI dX0_clear_2 fl0_50 (kR2 hS0.1 ta0) (Or.inl rfl) hS0 ta0 (by show (0 : Int) ≤ v3.toInt ∧ v3.toInt ≤ (240 : Int); exact om_9ed8f7f4 h4) rfl (by decide +kernel) ?_
  intro I5 hS6 e7 f8
  have hO9 : FrO 2 a0 T I0 I5 := hO0.put f8 ta0 (Or.inr rfl)
  refine tr_aload_n dX0_clear_5 rfl ?_
  refine q_iconst dX0_clear_6 (by decide) ?_
  intro v10 h11
  refine q_putI dX0_clear_7 fl0_54 (kR2 hS6.1 ta0) (Or.inl rfl) hS6 ta0 (by show (0 : Int) ≤ v10.toInt ∧ v10.toInt ≤ (4 : Int); exact om_e8b39ab5 h11) rfl (by decide +kernel) ?_
  intro I12 hS13 e14 f15
  have c16 : I12 a0 0 = v3 := (f15 _ _ (fun q => absurd q.2 (by decide))).trans e7
  have hO17 : FrO 2 a0 T I0 I12 := hO9.put f15 ta0 (Or.inr rfl)
  refine tr_aload_n dX0_clear_10 rfl ?_
  refine q_iconst dX0_clear_11 (by decide) ?_
  intro v18 h19
  refine q_putI dX0_clear_12 fl0_57 (kR2 hS13.1 ta0) (Or.inl rfl) hS13 ta0 (by show (0 : Int) ≤ v18.toInt ∧ v18.toInt ≤ (14 : Int); exact om_5db07cd6 h19) rfl (by decide +kernel) ?_
  intro I20 hS21 e22 f23
  have c24 : I20 a0 0 = v3 := (f23 _ _ (fun q => absurd q.2 (by decide))).trans c16
  have c25 : I20 a0 1 = v10 := (f23 _ _ (fun q => absurd q.2 (by decide))).trans e14
  have hO26 : FrO 2 a0 T I0 I20 := hO17.put f23 ta0 (Or.inr rfl)
  refine tr_aload_n dX0_clear_15 rfl ?_
  refine q_iconst dX0_clear_16 (by decide) ?_
  intro v27 h28
  refine q_putI dX0_clear_17 fl0_60 (kR2 hS21.1 ta0) (Or.inl rfl) hS21 ta0 (by show (0 : Int) ≤ v27.toInt ∧ v27.toInt ≤ (8 : Int); exact om_7d21acc5 h28) rfl (by decide +kernel) ?_
  intro I29 hS30 e31 f32
  have c33 : I29 a0 0 = v3 := (f32 _ _ (fun q => absurd q.2 (by decide))).trans c24
  have c34 : I29 a0 1 = v10 := (f32 _ _ (fun q => absurd q.2 (by decide))).trans c25
  have c35 : I29 a0 3 = v18 := (f32 _ _ (fun q => absurd q.2 (by decide))).trans e22
  have hO36 : FrO 2 a0 T I0 I29 := hO26.put f32 ta0 (Or.inr rfl)
  refine tr_aload_n dX0_clear_20 rfl ?_
  refine q_iconst dX0_clear_21 (by decide) ?_
  intro v37 h38
  refine q_putI dX0_clear_22 fl0_63 (kR2 hS30.1 ta0) (Or.inl rfl) hS30 ta0 (iokF rfl) rfl (by decide +kernel) ?_
  intro I39 hS40 e41 f42
  have c43 : I39 a0 0 = v3 := (f42 _ _ (fun q => absurd q.2 (by decide))).trans c33
  have c44 : I39 a0 1 = v10 := (f42 _ _ (fun q => absurd q.2 (by decide))).trans c34
  have c45 : I39 a0 3 = v18 := (f42 _ _ (fun q => absurd q.2 (by decide))).trans c35
  have c46 : I39 a0 5 = v27 := (f42 _ _ (fun q => absurd q.2 (by decide))).trans e31
  have hO47 : FrO 2 a0 T I0 I39 := hO36.put f42 ta0 (Or.inr rfl)
  refine tr_aload_n dX0_clear_25 rfl ?_
  refine tr_getR dX0_clear_26 fl0_27 (kR2 hS40.1 ta0) d2 ?_
  refine q_iconst dX0_clear_29 (by decide) ?_
  intro v48 h49
  refine q_putI dX0_clear_30 fl0_66 (kR6 hS40.1 ta1) (Or.inl rfl) hS40 ta1 (by show (0 : Int) ≤ v48.toInt ∧ v48.toInt ≤ (8 : Int); exact om_7d21acc5 h49) rfl (by decide +kernel) ?_
  intro I50 hS51 e52 f53
  have c54 : I50 a0 0 = v3 := (f53 _ _ (fun q => by have z := ta0; rw [q.1, ta1] at z; exact absurd z (by decide))).trans c43
  have c55 : I50 a0 1 = v10 := (f53 _ _ (fun q => absurd q.2 (by decide))).trans c44
  have c56 : I50 a0 3 = v18 := (f53 _ _ (fun q => absurd q.2 (by decide))).trans c45
  have c57 : I50 a0 5 = v27 := (f53 _ _ (fun q => absurd q.2 (by decide))).trans c46
  have c58 : I50 a0 7 = v37 := (f53 _ _ (fun q => absurd q.2 (by decide))).trans e41
  have hO59 : FrO 2 a0 T I0 I50 := hO47.put f53 ta1 (Or.inl (by decide))
  refine tr_aload_n dX0_clear_33 rfl ?_
  refine q_iconst dX0_clear_34 (by decide) ?_
  intro v60 h61
  refine q_putI dX0_clear_35 fl0_69 (kR2 hS51.1 ta0) (Or.inl rfl) hS51 ta0 (by show (0 : Int) ≤ v60.toInt ∧ v60.toInt ≤ (5 : Int); exact om_3597b99b h61) rfl (by decide +kernel) ?_
  intro I62 hS63 e64 f65
  have c66 : I62 a0 0 = v3 := (f65 _ _ (fun q => absurd q.2 (by decide))).trans c54
  have c67 : I62 a0 1 = v10 := (f65 _ _ (fun q => absurd q.2 (by decide))).trans c55
  have c68 : I62 a0 3 = v18 := (f65 _ _ (fun q => absurd q.2 (by decide))).trans c56
  have c69 : I62 a0 5 = v27 := (f65 _ _ (fun q => absurd q.2 (by decide))).trans c57
  have c70 : I62 a0 7 = v37 := (f65 _ _ (fun q => absurd q.2 (by decide))).trans c58
  have c71 : I62 a1 0 = v48 := (f65 _ _ (fun q => absurd q.2 (by decide))).trans e52
  have hO72 : FrO 2 a0 T I0 I62 := hO59.put f65 ta0 (Or.inr rfl)
  refine tr_aload_n dX0_clear_38 rfl ?_
  refine q_iconst dX0_clear_39 (by decide) ?_
  intro v73 h74
  refine q_putI dX0_clear_40 fl0_72 (kR2 hS63.1 ta0) (Or.inl rfl) hS63 ta0 (by show (0 : Int) ≤ v73.toInt ∧ v73.toInt ≤ (6 : Int); exact om_a3bde316 h74) rfl (by decide +kernel) ?_
  intro I75 hS76 e77 f78
  have c79 : I75 a0 0 = v3 := (f78 _ _ (fun q => absurd q.2 (by decide))).trans c66
  have c80 : I75 a0 1 = v10 := (f78 _ _ (fun q => absurd q.2 (by decide))).trans c67
  have c81 : I75 a0 3 = v18 := (f78 _ _ (fun q => absurd q.2 (by decide))).trans c68
  have c82 : I75 a0 5 = v27 := (f78 _ _ (fun q => absurd q.2 (by decide))).trans c69
  have c83 : I75 a0 7 = v37 := (f78 _ _ (fun q => absurd q.2 (by decide))).trans c70
  have c84 : I75 a1 0 = v48 := (f78 _ _ (fun q => absurd q.2 (by decide))).trans c71
  have c85 : I75 a0 9 = v60 := (f78 _ _ (fun q => absurd q.2 (by decide))).trans e64
  have hO86 : FrO 2 a0 T I0 I75 := hO72.put f78 ta0 (Or.inr rfl)
  refine tr_aload_n dX0_clear_43 rfl ?_
  refine q_iconst dX0_clear_44 (by decide) ?_
  intro v87 h88
  refine q_putI dX0_clear_45 fl0_75 (kR2 hS76.1 ta0) (Or.inl rfl) hS76 ta0 (by show (0 : Int) ≤ v87.toInt ∧ v87.toInt ≤ (4 : Int); exact om_e8b39ab5 h88) rfl (by decide +kernel) ?_
  intro I89 hS90 e91 f92
  have c93 : I89 a0 0 = v3 := (f92 _ _ (fun q => absurd q.2 (by decide))).trans c79
  have c94 : I89 a0 1 = v10 := (f92 _ _ (fun q => absurd q.2 (by decide))).trans c80
  have c95 : I89 a0 3 = v18 := (f92 _ _ (fun q => absurd q.2 (by decide))).trans c81
  have c96 : I89 a0 5 = v27 := (f92 _ _ (fun q => absurd q.2 (by decide))).trans c82
  have c97 : I89 a0 7 = v37 := (f92 _ _ (fun q => absurd q.2 (by decide))).trans c83
  have c98 : I89 a1 0 = v48 := (f92 _ _ (fun q => absurd q.2 (by decide))).trans c84
  have c99 : I89 a0 9 = v60 := (f92 _ _ (fun q => absurd q.2 (by decide))).trans c85
  have c100 : I89 a0 11 = v73 := (f92 _ _ (fun q => absurd q.2 (by decide))).trans e77
  have hO101 : FrO 2 a0 T I0 I89 := hO86.put f92 ta0 (Or.inr rfl)
  exact tr_vret hZ dX0_clear_48 rfl (by decide) (by decide) ⟨rfl, rfl, rfl, rfl, rfl, rfl, hS90, (by (try rw [c93]); first | done | with_reducible assumption | omega), (by (try rw [c94]); first | done | with_reducible assumption | omega), (by (try rw [c95]); first | done | with_reducible assumption | omega), (by (try rw [c96]); first | done | with_reducible assumption | omega), (by (try rw [c99]); first | done | with_reducible assumption | omega), (by (try rw [c100]); first | done | with_reducible assumption | omega), (by (try rw [e91]); first | done | with_reducible assumption | omega), (by (try rw [c97]); first | done | with_reducible assumption | omega), (fun q0 z0 => by obtain rfl := Option.some.inj ((d2).symm.trans z0); (try rw [c98]); first | done | with_reducible assumption | omega), ((((((((((FrK.rf (R := R0) (al := a0) (W := fun _ => True) (T := T)).put f8 ta0 (by decide)).put f15 ta0 (by decide)).put f23 ta0 (by decide)).put f32 ta0 (by decide)).put f42 ta0 (by decide)).pu f53 (by exact om_afe144b2) trivial (ObA d2)).put f65 ta0 (by decide)).put f78 ta0 (by decide)).put f92 ta0 (by decide)), hO101, trivial⟩
def wik_X7_readAll : List Nat := [128, 129, 131, 133, 135, 137, 139, 141, 192, 193, 194, 195, 256, 257, 258, 259, 260, 261, 320, 321, 322, 323, 384, 449, 450, 451, 452, 454, 455, 456, 457, 459, 460, 463, 464, 1215, 1343, 1599]
def wrk_X7_readAll : List Nat := [458]
def wlk_X7_readAll : List Nat := [453, 1663, 1727]
set_option maxHeartbeats 4000000 in
theorem fk_X7_readAll {l : Launch} {T : Nat → Nat} {cn : Nat} {K N : Nat → Nat} {I0 : cz_I} {R0 : cz_R} {L0 : cz_L} {d : Int} (hW0 : Wf T cn K N I0 R0 d) (gB : cz_B) {a0 : Nat} (ta0 : T a0 = 7) {a1 : Nat} (ta1 : T a1 = 2) {x2 : Int32} (hx2 : 0 ≤ x2.toInt ∧ x2.toInt ≤ 900) (hT : ∀ t, R0 a0 0 = some t → Tx I0 t gB) (pre0 : x2.toInt = (gB.2)) : ConE l mX7_readAll [.ref a0, .ref a1, .int x2] cn K N I0 R0 L0 (ca_i (fun v cn' K' N' I' R' L' => cn = cn' ∧ K = K' ∧ N = N' ∧ St T cn K N d wik_X7_readAll wrk_X7_readAll I0 R0 I' R' ∧ LgS T wlk_X7_readAll L0 L' ∧ (0 ≤ v.toInt ∧ v.toInt ≤ 1) ∧ (FrK R0 a1 (fun _ => True) T I0 I') ∧ (FrO 2 a1 T I0 I') ∧ (((v.toInt = 1) ∧ ((lsF gB 901 0 Q00) = 0) ∧ ((I' a0 15).toInt = 0) ∧ ((I' a1 5).toInt = (lsC gB 901 0 Q00)) ∧ ((I' a1 0).toInt = (lsA0 gB 901 0 Q00)) ∧ ((I' a1 11).toInt = (lsA5 gB 901 0 Q00)) ∧ ((I' a1 3).toInt = (lsA2 gB 901 0 Q00)) ∧ ((I' a1 1).toInt = (lsA1 gB 901 0 Q00)) ∧ ((I' a1 5).toInt = (lsA3 gB 901 0 Q00)) ∧ ((I' a1 9).toInt = (lsA4 gB 901 0 Q00)) ∧ ((I' a1 13).toInt = (lsA6 gB 901 0 Q00)) ∧ ((I' a1 7).toInt = (lsA9 gB 901 0 Q00)) ∧ (AlT R0 a1 → AlC I' R0 a1 (cnt gB) (lsE gB 901 0 Q00 E00)) ∧ True) ∨ ((v.toInt = 0) ∧ ((lsF gB 901 0 Q00) ≠ 0) ∧ ((I' a0 15).toInt = (lsF gB 901 0 Q00)) ∧ ((I' a0 16).toInt = (lsP gB 901 0 Q00)) ∧ True)) ∧ True)) := by
  refine ConE.of (by decide +kernel) rfl (Nat.le_of_ble_eq_true rfl) rfl (fun X hX hZ hE => ?_)
  subst hX
  have hS0 : St T cn K N d wik_X7_readAll wrk_X7_readAll I0 R0 I0 R0 := St.rf0 hW0
  have hL0 : LgS T wlk_X7_readAll L0 L0 := LgS.rf0
  have p1 := pre0
  have hO0 : FrO 2 a1 T I0 I0 := FrO.rf
  obtain ⟨a2, d3, ta2⟩ := rf2_8 hW0 ta1
  refine tr_aload_n dX7_readAll_0 rfl ?_
  refine tr_aload_n dX7_readAll_1 rfl ?_
  refine q_putR dX7_readAll_2 fl7_22 (kR7 hS0.1 ta0) (Or.inl rfl) hS0 ta0 (okR_in rfl rfl ta1) rfl (by decide +kernel) ?_
  intro R4 hS5 e6 f7
  refine tr_aload_n dX7_readAll_5 rfl ?_
  refine tr_getR dX7_readAll_6 fl7_22 (kR7 hS5.1 ta0) e6 ?_
  refine q_callVv hE (M' := mX0_clear) (as := []) dX7_readAll_9 lk7_26 inX0_clear seX0_clear myX0_clear (by decide) ⟨by decide, by decide⟩ rfl (kR2 hS5.1 ta1) (Nat.le_of_ble_eq_true rfl) rfl rfl (by decide) (by decide) (fk_X0_clear hS5.1  ta1) ?_
  rintro cn' K' N' I8 R9 L10 ⟨rfl, rfl, rfl, rfl, rfl, g11, p14, p15, p16, p17, p18, p19, p20, p21, p22, rp23, rp24, -⟩
  have hS25 := hS5.tr g11 (by decide +kernel) (by decide +kernel)
  have hO26 : FrO 2 a1 T I0 I8 := hO0.tr rp24
  obtain ⟨v27, c28⟩ : ∃ v, I8 a1 0 = v := ⟨_, rfl⟩
  have b29 := iv2_0 hS25.1 ta1 c28
  rw [c28] at p14
  obtain ⟨v30, c31⟩ : ∃ v, I8 a1 1 = v := ⟨_, rfl⟩
  have b32 := iv2_1 hS25.1 ta1 c31
  rw [c31] at p15
  obtain ⟨v33, c34⟩ : ∃ v, I8 a1 3 = v := ⟨_, rfl⟩
  have b35 := iv2_3 hS25.1 ta1 c34
  rw [c34] at p16
  obtain ⟨v36, c37⟩ : ∃ v, I8 a1 5 = v := ⟨_, rfl⟩
  have b38 := iv2_5 hS25.1 ta1 c37
  rw [c37] at p17
  obtain ⟨v39, c40⟩ : ∃ v, I8 a1 9 = v := ⟨_, rfl⟩
  have b41 := iv2_9 hS25.1 ta1 c40
  rw [c40] at p18
  obtain ⟨v42, c43⟩ : ∃ v, I8 a1 11 = v := ⟨_, rfl⟩
  have b44 := iv2_11 hS25.1 ta1 c43
  rw [c43] at p19
  obtain ⟨v45, c46⟩ : ∃ v, I8 a1 13 = v := ⟨_, rfl⟩
  have b47 := iv2_13 hS25.1 ta1 c46
  rw [c46] at p20
  obtain ⟨v48, c49⟩ : ∃ v, I8 a1 7 = v := ⟨_, rfl⟩
  rw [c49] at p21
  obtain ⟨v50, c51⟩ : ∃ v, I8 a2 0 = v := ⟨_, rfl⟩
  have b52 := iv6_0 hS25.1 ta2 c51
  have p53 := p22 _ ((hS25.rcell ta1 (by decide +kernel)).trans d3)
  clear p22
  rw [c51] at p53
  have hWC := hS25.1
  have hSC := hS25
  refine tr_aload_n dX7_readAll_12 rfl ?_
  refine q_iconst dX7_readAll_13 (by decide) ?_
  intro v54 h55
  refine q_putZ dX7_readAll_14 fl7_31 (kR7 hS25.1 ta0) (Or.inl rfl) hS25 ta0 (by exact om_3b50ecb9 h55) (by show (0 : Int) ≤ v54.toInt ∧ v54.toInt ≤ (1 : Int); exact om_3b50ecb9 h55) rfl (by decide +kernel) ?_
  intro I56 hS57 e58 f59
  have c60 : I56 a1 0 = v27 := (f59 _ _ (fun q => absurd q.2 (by decide))).trans c28
  have c61 : I56 a1 1 = v30 := (f59 _ _ (fun q => absurd q.2 (by decide))).trans c31
  have c62 : I56 a1 3 = v33 := (f59 _ _ (fun q => absurd q.2 (by decide))).trans c34
  have c63 : I56 a1 5 = v36 := (f59 _ _ (fun q => absurd q.2 (by decide))).trans c37
  have c64 : I56 a1 9 = v39 := (f59 _ _ (fun q => absurd q.2 (by decide))).trans c40
  have c65 : I56 a1 11 = v42 := (f59 _ _ (fun q => by have z := ta1; rw [q.1, ta0] at z; exact absurd z (by decide))).trans c43
  have c66 : I56 a1 13 = v45 := (f59 _ _ (fun q => absurd q.2 (by decide))).trans c46
  have c67 : I56 a1 7 = v48 := (f59 _ _ (fun q => absurd q.2 (by decide))).trans c49
  have c68 : I56 a2 0 = v50 := (f59 _ _ (fun q => absurd q.2 (by decide))).trans c51
  have hO69 : FrO 2 a1 T I0 I56 := hO26.put f59 ta0 (Or.inl (by decide))
  refine tr_aload_n dX7_readAll_17 rfl ?_
  refine q_iconst dX7_readAll_18 (by decide) ?_
  intro v70 h71
  refine q_putZ dX7_readAll_19 fl7_35 (kR7 hS57.1 ta0) (Or.inl rfl) hS57 ta0 (by exact om_3b50ecb9 h71) (by show (0 : Int) ≤ v70.toInt ∧ v70.toInt ≤ (1 : Int); exact om_3b50ecb9 h71) rfl (by decide +kernel) ?_
  intro I72 hS73 e74 f75
  have c76 : I72 a1 0 = v27 := (f75 _ _ (fun q => absurd q.2 (by decide))).trans c60
  have c77 : I72 a1 1 = v30 := (f75 _ _ (fun q => absurd q.2 (by decide))).trans c61
  have c78 : I72 a1 3 = v33 := (f75 _ _ (fun q => absurd q.2 (by decide))).trans c62
  have c79 : I72 a1 5 = v36 := (f75 _ _ (fun q => absurd q.2 (by decide))).trans c63
  have c80 : I72 a1 9 = v39 := (f75 _ _ (fun q => absurd q.2 (by decide))).trans c64
  have c81 : I72 a1 11 = v42 := (f75 _ _ (fun q => absurd q.2 (by decide))).trans c65
  have c82 : I72 a1 13 = v45 := (f75 _ _ (fun q => absurd q.2 (by decide))).trans c66
  have c83 : I72 a1 7 = v48 := (f75 _ _ (fun q => absurd q.2 (by decide))).trans c67
  have c84 : I72 a2 0 = v50 := (f75 _ _ (fun q => absurd q.2 (by decide))).trans c68
  have c85 : I72 a0 11 = v54 := (f75 _ _ (fun q => absurd q.2 (by decide))).trans e58
  have hO86 : FrO 2 a1 T I0 I72 := hO69.put f75 ta0 (Or.inl (by decide))
  refine tr_aload_n dX7_readAll_22 rfl ?_
  refine q_iconst dX7_readAll_23 (by decide) ?_
  intro v87 h88
  refine q_putI dX7_readAll_24 fl7_38 (kR7 hS73.1 ta0) (Or.inl rfl) hS73 ta0 (iokF rfl) rfl (by decide +kernel) ?_
  intro I89 hS90 e91 f92
  have c93 : I89 a1 0 = v27 := (f92 _ _ (fun q => absurd q.2 (by decide))).trans c76
  have c94 : I89 a1 1 = v30 := (f92 _ _ (fun q => absurd q.2 (by decide))).trans c77
  have c95 : I89 a1 3 = v33 := (f92 _ _ (fun q => absurd q.2 (by decide))).trans c78
  have c96 : I89 a1 5 = v36 := (f92 _ _ (fun q => absurd q.2 (by decide))).trans c79
  have c97 : I89 a1 9 = v39 := (f92 _ _ (fun q => absurd q.2 (by decide))).trans c80
  have c98 : I89 a1 11 = v42 := (f92 _ _ (fun q => absurd q.2 (by decide))).trans c81
  have c99 : I89 a1 13 = v45 := (f92 _ _ (fun q => absurd q.2 (by decide))).trans c82
  have c100 : I89 a1 7 = v48 := (f92 _ _ (fun q => absurd q.2 (by decide))).trans c83
  have c101 : I89 a2 0 = v50 := (f92 _ _ (fun q => absurd q.2 (by decide))).trans c84
  have c102 : I89 a0 11 = v54 := (f92 _ _ (fun q => absurd q.2 (by decide))).trans c85
  have c103 : I89 a0 12 = v70 := (f92 _ _ (fun q => absurd q.2 (by decide))).trans e74
  have hO104 : FrO 2 a1 T I0 I89 := hO86.put f92 ta0 (Or.inl (by decide))
  refine tr_aload_n dX7_readAll_27 rfl ?_
  refine q_iconst dX7_readAll_28 (by decide) ?_
  intro v105 h106
  refine q_putI dX7_readAll_29 fl7_42 (kR7 hS90.1 ta0) (Or.inl rfl) hS90 ta0 (iokF rfl) rfl (by decide +kernel) ?_
  intro I107 hS108 e109 f110
  have c111 : I107 a1 0 = v27 := (f110 _ _ (fun q => absurd q.2 (by decide))).trans c93
  have c112 : I107 a1 1 = v30 := (f110 _ _ (fun q => absurd q.2 (by decide))).trans c94
  have c113 : I107 a1 3 = v33 := (f110 _ _ (fun q => absurd q.2 (by decide))).trans c95
  have c114 : I107 a1 5 = v36 := (f110 _ _ (fun q => absurd q.2 (by decide))).trans c96
  have c115 : I107 a1 9 = v39 := (f110 _ _ (fun q => absurd q.2 (by decide))).trans c97
  have c116 : I107 a1 11 = v42 := (f110 _ _ (fun q => absurd q.2 (by decide))).trans c98
  have c117 : I107 a1 13 = v45 := (f110 _ _ (fun q => absurd q.2 (by decide))).trans c99
  have c118 : I107 a1 7 = v48 := (f110 _ _ (fun q => absurd q.2 (by decide))).trans c100
  have c119 : I107 a2 0 = v50 := (f110 _ _ (fun q => absurd q.2 (by decide))).trans c101
  have c120 : I107 a0 11 = v54 := (f110 _ _ (fun q => absurd q.2 (by decide))).trans c102
  have c121 : I107 a0 12 = v70 := (f110 _ _ (fun q => absurd q.2 (by decide))).trans c103
  have c122 : I107 a0 15 = v87 := (f110 _ _ (fun q => absurd q.2 (by decide))).trans e91
  have hO123 : FrO 2 a1 T I0 I107 := hO104.put f110 ta0 (Or.inl (by decide))
  refine tr_aload_n dX7_readAll_32 rfl ?_
  refine tr_iload_n dX7_readAll_33 rfl ?_
  refine q_putI dX7_readAll_34 fl7_45 (kR7 hS108.1 ta0) (Or.inl rfl) hS108 ta0 (by show (0 : Int) ≤ x2.toInt ∧ x2.toInt ≤ (900 : Int); exact om_7caca98d hx2) rfl (by decide +kernel) ?_
  intro I124 hS125 e126 f127
  have c128 : I124 a1 0 = v27 := (f127 _ _ (fun q => absurd q.2 (by decide))).trans c111
  have c129 : I124 a1 1 = v30 := (f127 _ _ (fun q => by have z := ta1; rw [q.1, ta0] at z; exact absurd z (by decide))).trans c112
  have c130 : I124 a1 3 = v33 := (f127 _ _ (fun q => absurd q.2 (by decide))).trans c113
  have c131 : I124 a1 5 = v36 := (f127 _ _ (fun q => absurd q.2 (by decide))).trans c114
  have c132 : I124 a1 9 = v39 := (f127 _ _ (fun q => absurd q.2 (by decide))).trans c115
  have c133 : I124 a1 11 = v42 := (f127 _ _ (fun q => absurd q.2 (by decide))).trans c116
  have c134 : I124 a1 13 = v45 := (f127 _ _ (fun q => absurd q.2 (by decide))).trans c117
  have c135 : I124 a1 7 = v48 := (f127 _ _ (fun q => absurd q.2 (by decide))).trans c118
  have c136 : I124 a2 0 = v50 := (f127 _ _ (fun q => absurd q.2 (by decide))).trans c119
  have c137 : I124 a0 11 = v54 := (f127 _ _ (fun q => absurd q.2 (by decide))).trans c120
  have c138 : I124 a0 12 = v70 := (f127 _ _ (fun q => absurd q.2 (by decide))).trans c121
  have c139 : I124 a0 15 = v87 := (f127 _ _ (fun q => absurd q.2 (by decide))).trans c122
  have c140 : I124 a0 16 = v105 := (f127 _ _ (fun q => absurd q.2 (by decide))).trans e109
  have hO141 : FrO 2 a1 T I0 I124 := hO123.put f127 ta0 (Or.inl (by decide))
  refine tr_aload_n dX7_readAll_37 rfl ?_
  refine q_iconst dX7_readAll_38 (by decide) ?_
  intro v142 h143
  refine q_putI dX7_readAll_39 fl7_48 (kR7 hS125.1 ta0) (Or.inl rfl) hS125 ta0 (by show (0 : Int) ≤ v142.toInt ∧ v142.toInt ≤ (900 : Int); exact om_d84473bb h143) rfl (by decide +kernel) ?_
  intro I144 hS145 e146 f147
  have c148 : I144 a1 0 = v27 := (f147 _ _ (fun q => absurd q.2 (by decide))).trans c128
  have c149 : I144 a1 1 = v30 := (f147 _ _ (fun q => absurd q.2 (by decide))).trans c129
  have c150 : I144 a1 3 = v33 := (f147 _ _ (fun q => absurd q.2 (by decide))).trans c130
  have c151 : I144 a1 5 = v36 := (f147 _ _ (fun q => absurd q.2 (by decide))).trans c131
  have c152 : I144 a1 9 = v39 := (f147 _ _ (fun q => absurd q.2 (by decide))).trans c132
  have c153 : I144 a1 11 = v42 := (f147 _ _ (fun q => absurd q.2 (by decide))).trans c133
  have c154 : I144 a1 13 = v45 := (f147 _ _ (fun q => absurd q.2 (by decide))).trans c134
  have c155 : I144 a1 7 = v48 := (f147 _ _ (fun q => absurd q.2 (by decide))).trans c135
  have c156 : I144 a2 0 = v50 := (f147 _ _ (fun q => absurd q.2 (by decide))).trans c136
  have c157 : I144 a0 11 = v54 := (f147 _ _ (fun q => absurd q.2 (by decide))).trans c137
  have c158 : I144 a0 12 = v70 := (f147 _ _ (fun q => absurd q.2 (by decide))).trans c138
  have c159 : I144 a0 15 = v87 := (f147 _ _ (fun q => absurd q.2 (by decide))).trans c139
  have c160 : I144 a0 16 = v105 := (f147 _ _ (fun q => absurd q.2 (by decide))).trans c140
  have c161 : I144 a0 1 = x2 := (f147 _ _ (fun q => absurd q.2 (by decide))).trans e126
  have hO162 : FrO 2 a1 T I0 I144 := hO141.put f147 ta0 (Or.inl (by decide))
  refine tr_aload_n dX7_readAll_42 rfl ?_
  refine q_callVv hE (M' := mX7_step) (as := []) dX7_readAll_43 lk7_51 inX7_step seX7_step myX7_step (by decide) ⟨by decide, by decide⟩ rfl (kR7 hS145.1 ta0) (Nat.le_of_ble_eq_true rfl) rfl rfl (by decide) (by decide) (fk_X7_step hS145.1 (gB) (0) ta0 (TxA.kp hT hS145 ta0 rfl rfl rfl (by decide +kernel) (by decide +kernel)) (by (try rw [e146]); first | done | with_reducible assumption | omega) (by (try rw [c161]); first | done | with_reducible assumption | omega)) ?_
  rintro cn' K' N' I163 R164 L165 ⟨rfl, rfl, rfl, rfl, g166, gl167, p169, p170, p171, p172, p173, -⟩
  have hS174 := hS145.tr g166 (by decide +kernel) (by decide +kernel)
  have c175 : I163 a1 0 = v27 := (g166.cell ta1 (by decide +kernel)).trans c148
  have c176 : I163 a1 1 = v30 := (g166.cell ta1 (by decide +kernel)).trans c149
  have c177 : I163 a1 3 = v33 := (g166.cell ta1 (by decide +kernel)).trans c150
  have c178 : I163 a1 5 = v36 := (g166.cell ta1 (by decide +kernel)).trans c151
  have c179 : I163 a1 9 = v39 := (g166.cell ta1 (by decide +kernel)).trans c152
  have c180 : I163 a1 11 = v42 := (g166.cell ta1 (by decide +kernel)).trans c153
  have c181 : I163 a1 13 = v45 := (g166.cell ta1 (by decide +kernel)).trans c154
  have c182 : I163 a1 7 = v48 := (g166.cell ta1 (by decide +kernel)).trans c155
  have c183 : I163 a2 0 = v50 := (g166.cell ta2 (by decide +kernel)).trans c156
  have c184 : I163 a0 11 = v54 := (g166.cell ta0 (by decide +kernel)).trans c157
  have c185 : I163 a0 12 = v70 := (g166.cell ta0 (by decide +kernel)).trans c158
  have c186 : I163 a0 15 = v87 := (g166.cell ta0 (by decide +kernel)).trans c159
  have c187 : I163 a0 16 = v105 := (g166.cell ta0 (by decide +kernel)).trans c160
  have c188 : I163 a0 1 = x2 := (g166.cell ta0 (by decide +kernel)).trans c161
  have hO189 : FrO 2 a1 T I0 I163 := hO162.st g166 (by decide +kernel)
  have hL190 := hL0.tr gl167 (by decide +kernel)
  obtain ⟨v191, c192⟩ : ∃ v, I163 a0 2 = v := ⟨_, rfl⟩
  have b193 := iv7_2 hS174.1 ta0 c192
  rw [c192] at p169
  obtain ⟨v194, c195⟩ : ∃ v, I163 a0 4 = v := ⟨_, rfl⟩
  have b196 := iv7_4 hS174.1 ta0 c195
  rw [c195] at p170
  obtain ⟨v197, c198⟩ : ∃ v, I163 a0 3 = v := ⟨_, rfl⟩
  have b199 := iv7_3 hS174.1 ta0 c198
  rw [c198] at p171
  obtain ⟨y200, c201⟩ : ∃ v, L165 a0 5 = v := ⟨_, rfl⟩
  rw [c201] at p172
  obtain ⟨v202, c203⟩ : ∃ v, I163 a0 6 = v := ⟨_, rfl⟩
  rw [c203] at p173
  have hN204 : NmC L165 R4 a0 Q00 := NmC.z0
  have q00_0 : Q00 0 = 0 := rfl
  have q00_1 : Q00 1 = 0 := rfl
  have q00_2 : Q00 2 = 0 := rfl
  have q00_3 : Q00 3 = 0 := rfl
  have q00_4 : Q00 4 = 0 := rfl
  have q00_5 : Q00 5 = 0 := rfl
  have q00_6 : Q00 6 = 0 := rfl
  have q00_7 : Q00 7 = 0 := rfl
  have q00_8 : Q00 8 = 0 := rfl
  have hWR := hS174.1
  have hSR := hS174
  have q00_9 : Q00 9 = 0 := rfl
  refine q_iconst dX7_readAll_46 (by decide) ?_
  intro v205 h206
  refine tr_istore_n dX7_readAll_47 (by decide) (by decide) ?_
  have lp290 : ∀ (fu : Nat) (ls : Nat → Option Value) (v207 : Int32) (I212 : cz_I) (L213 : cz_L) (gs214 : Int) (gr215 : Nat) (gQ216 : Nat → Int) (gE217 : Nat → Nat → Int) (v222 : Int32) (v224 : Int32) (v226 : Int32) (v228 : Int32) (v230 : Int32) (y232 : Int64) (v234 : Int32) (v236 : Int32) (v238 : Int32) (v240 : Int32) (v242 : Int32) (v244 : Int32) (v246 : Int32) (v248 : Int32) (v250 : Int32) (v252 : Int32) (v254 : Int32), ls 0 = some (.ref a0) → ls 1 = some (.ref a1) → ls 2 = some (.int x2) → ls 3 = some (.int v207) → St T cn K N d wik_X7_readAll wrk_X7_readAll I0 R0 I212 R4 → LgS T wlk_X7_readAll L0 L213 → NmC L213 R4 a0 gQ216 → FrO 2 a1 T I0 I212 → I212 a0 1 = v222 → I212 a0 15 = v224 → I212 a0 2 = v226 → I212 a0 4 = v228 → I212 a0 3 = v230 → L213 a0 5 = y232 → I212 a0 6 = v234 → I212 a1 0 = v236 → I212 a1 1 = v238 → I212 a1 3 = v240 → I212 a1 5 = v242 → I212 a1 9 = v244 → I212 a1 11 = v246 → I212 a1 13 = v248 → I212 a0 11 = v250 → I212 a0 12 = v252 → I212 a1 7 = v254 → (lsF gB gr215 gs214 gQ216) = (lsF gB 901 0 Q00) → (lsP gB gr215 gs214 gQ216) = (lsP gB 901 0 Q00) → (lsC gB gr215 gs214 gQ216) = (lsC gB 901 0 Q00) → (lsA0 gB gr215 gs214 gQ216) = (lsA0 gB 901 0 Q00) → (lsA5 gB gr215 gs214 gQ216) = (lsA5 gB 901 0 Q00) → (lsA2 gB gr215 gs214 gQ216) = (lsA2 gB 901 0 Q00) → (lsA1 gB gr215 gs214 gQ216) = (lsA1 gB 901 0 Q00) → (lsA3 gB gr215 gs214 gQ216) = (lsA3 gB 901 0 Q00) → (lsA4 gB gr215 gs214 gQ216) = (lsA4 gB 901 0 Q00) → (lsA6 gB gr215 gs214 gQ216) = (lsA6 gB 901 0 Q00) → (lsA9 gB gr215 gs214 gQ216) = (lsA9 gB 901 0 Q00) → v222.toInt = (gB.2) → v224.toInt = 0 → 0 ≤ v207.toInt → v207.toInt ≤ 901 → ((gr215 : Int)) = -v207.toInt + 901 → v226.toInt = (tkN gB gs214) → v228.toInt = (tkS gB gs214) → v230.toInt = (tkK gB gs214) → (AtW ((tkK gB gs214)) (y232.toInt) ((tkW gB gs214))) → (AtV ((tkK gB gs214)) (v234.toInt) ((tkV gB gs214))) → v236.toInt = (gQ216 0) → v238.toInt = (gQ216 1) → v240.toInt = (gQ216 2) → v242.toInt = (gQ216 3) → v244.toInt = (gQ216 4) → v246.toInt = (gQ216 5) → v248.toInt = (gQ216 6) → v250.toInt = (gQ216 7) → v252.toInt = (gQ216 8) → v254.toInt = (gQ216 9) → (UpB ((gQ216 9)) ((gQ216 3))) → ((AlT R0 a1 → AlC I212 R4 a1 gQ216 gE217) ∧ lsE gB gr215 gs214 gQ216 gE217 = lsE gB 901 0 Q00 E00) → (FrK R0 a1 (fun _ => True) T I0 I212) → (-v207.toInt + 901).toNat < fu → Tr X mX7_readAll 48 ls [] cn K N I212 R4 L213 0 0 := by
    intro fu
    induction fu with
    | zero => intros; rename_i hz; exact absurd hz (Nat.not_lt_zero _)
    | succ fu ih290 =>
      intro ls v207 I212 L213 gs214 gr215 gQ216 gE217 v222 v224 v226 v228 v230 y232 v234 v236 v238 v240 v242 v244 v246 v248 v250 v252 v254 hl208 hl209 hl210 hl211 hS218 hL219 hN220 hO221 c223 c225 c227 c229 c231 c233 c235 c237 c239 c241 c243 c245 c247 c249 c251 c253 c255 g256 g257 g258 g259 g260 g261 g262 g263 g264 g265 g266 g267 g268 g269 g270 g271 g272 g273 g274 g275 g276 g277 g278 g279 g280 g281 g282 g283 g284 g285 g286 g287 rw288 rw289 hm290
      have b292 := iv7_1 hS218.1 ta0 c223
      have b293 := iv7_2 hS218.1 ta0 c227
      have b294 := iv7_4 hS218.1 ta0 c229
      have b295 := iv7_3 hS218.1 ta0 c231
      have b296 := iv2_0 hS218.1 ta1 c237
      have b297 := iv2_1 hS218.1 ta1 c239
      have b298 := iv2_3 hS218.1 ta1 c241
      have b299 := iv2_5 hS218.1 ta1 c243
      have b300 := iv2_9 hS218.1 ta1 c245
      have b301 := iv2_11 hS218.1 ta1 c247
      have b302 := iv2_13 hS218.1 ta1 c249
      have b303 := iv7_11 hS218.1 ta0 c251
      have b304 := iv7_12 hS218.1 ta0 c253
      rcases Nat.eq_zero_or_pos gr215 with hz305 | hz305
      · skip
        subst hz305
        refine tr_iload_n dX7_readAll_48 hl211 ?_
        refine q_sipush dX7_readAll_49 (by decide +kernel) ?_
        intro v307 h308
        refine q_icmp_gt 120 dX7_readAll_52 (by decide) (fun h309 => ?_) (fun h309 => ?_)
        · skip
          refine tr_aload_n dX7_readAll_120 hl208 ?_
          refine q_iconst dX7_readAll_121 (by decide) ?_
          intro v310 h311
          refine q_callVi hE (M' := mX7_fail) (as := [_]) dX7_readAll_122 lk7_64 inX7_fail seX7_fail myX7_fail (by decide) ⟨by decide, by decide⟩ rfl (kR7 hS218.1 ta0) (Nat.le_of_ble_eq_true rfl) rfl rfl (by decide) (by decide) (fk_X7_fail hS218.1  ta0 (by exact om_95922198 h311)) ?_
          rintro v317 cn' K' N' I312 R313 L314 ⟨rfl, rfl, rfl, rfl, rfl, g315, h318, p319, p320, p321, -⟩
          have hS322 := hS218.tr g315 (by decide +kernel) (by decide +kernel)
          have c323 : I312 a0 1 = v222 := (g315.cell ta0 (by decide +kernel)).trans c223
          have c324 : I312 a0 2 = v226 := (g315.cell ta0 (by decide +kernel)).trans c227
          have c325 : I312 a0 4 = v228 := (g315.cell ta0 (by decide +kernel)).trans c229
          have c326 : I312 a0 3 = v230 := (g315.cell ta0 (by decide +kernel)).trans c231
          have c327 : I312 a0 6 = v234 := (g315.cell ta0 (by decide +kernel)).trans c235
          have c328 : I312 a1 0 = v236 := (g315.cell ta1 (by decide +kernel)).trans c237
          have c329 : I312 a1 1 = v238 := (g315.cell ta1 (by decide +kernel)).trans c239
          have c330 : I312 a1 3 = v240 := (g315.cell ta1 (by decide +kernel)).trans c241
          have c331 : I312 a1 5 = v242 := (g315.cell ta1 (by decide +kernel)).trans c243
          have c332 : I312 a1 9 = v244 := (g315.cell ta1 (by decide +kernel)).trans c245
          have c333 : I312 a1 11 = v246 := (g315.cell ta1 (by decide +kernel)).trans c247
          have c334 : I312 a1 13 = v248 := (g315.cell ta1 (by decide +kernel)).trans c249
          have c335 : I312 a0 11 = v250 := (g315.cell ta0 (by decide +kernel)).trans c251
          have c336 : I312 a0 12 = v252 := (g315.cell ta0 (by decide +kernel)).trans c253
          have c337 : I312 a1 7 = v254 := (g315.cell ta1 (by decide +kernel)).trans c255
          have hO338 : FrO 2 a1 T I0 I312 := hO221.st g315 (by decide +kernel)
          obtain ⟨v339, c340⟩ : ∃ v, I312 a0 15 = v := ⟨_, rfl⟩
          rw [c340] at p320
          obtain ⟨v341, c342⟩ : ∃ v, I312 a0 16 = v := ⟨_, rfl⟩
          rw [c342] at p321
          rw [c229] at p321
          exact tr_zret hZ dX7_readAll_125 rfl (ti_b01 (by exact om_d99fa9e4 p319) (by exact om_d3de7ec9 p319)) (by decide) (by decide) ⟨v317, rfl, rfl, rfl, rfl, hS322, hL219, (by exact om_be53a44c h318), (rw289.st g315 (by decide +kernel)), hO338, (Or.inr (⟨(by first | done | with_reducible assumption | omega), (by rw [← g256]; simp only [lsF, ↓reduceIte]; exact om_2d67dd8e), (by (try rw [c340]); rw [← g256]; simp only [lsF, ↓reduceIte]; exact om_9fbcd811 h311 p320), (by (try rw [c342]); rw [← g257]; simp only [lsP, ↓reduceIte]; exact om_9fa72578 g273 p321), trivial⟩)), trivial⟩
        · skip
          exfalso; exact om_8e38515c g271 h308 h309
      · skip
        obtain ⟨gk306, rfl⟩ : ∃ k, gr215 = k + 1 := ⟨gr215 - 1, by exact om_8cf6b69f g269 g270 g271 hz305⟩
        refine tr_iload_n dX7_readAll_48 hl211 ?_
        refine q_sipush dX7_readAll_49 (by decide +kernel) ?_
        intro v343 h344
        refine q_icmp_gt 120 dX7_readAll_52 (by decide) (fun h345 => ?_) (fun h345 => ?_)
        · skip
          exfalso; exact om_fe05af17 g269 g270 g271 h344 h345
        · skip
          refine tr_aload_n dX7_readAll_55 hl208 ?_
          refine q_callVi hE (M' := mX7_readLine) (as := []) dX7_readAll_56 lk7_54 inX7_readLine seX7_readLine myX7_readLine (by decide) ⟨by decide, by decide⟩ rfl (kR7 hS218.1 ta0) (Nat.le_of_ble_eq_true rfl) rfl rfl (by decide) (by decide) (fk_X7_readLine hS218.1 (gB) (gs214) (gQ216) ta0 (TxA.kp hT hS218 ta0 rfl rfl rfl (by decide +kernel) (by decide +kernel)) hN220 (by (try rw [c227]); first | done | with_reducible assumption | omega) (by (try rw [c229]); first | done | with_reducible assumption | omega) (by (try rw [c231]); first | done | with_reducible assumption | omega) (by (try rw [c233]); first | done | assumption) (by (try rw [c235]); first | done | assumption) (by (try rw [c223]); first | done | with_reducible assumption | omega) (fun q0 z0 => by obtain rfl := Option.some.inj ((e6).symm.trans z0); (try rw [c237]); first | done | with_reducible assumption | omega) (fun q0 z0 => by obtain rfl := Option.some.inj ((e6).symm.trans z0); (try rw [c239]); first | done | with_reducible assumption | omega) (fun q0 z0 => by obtain rfl := Option.some.inj ((e6).symm.trans z0); (try rw [c241]); first | done | with_reducible assumption | omega) (fun q0 z0 => by obtain rfl := Option.some.inj ((e6).symm.trans z0); (try rw [c243]); first | done | with_reducible assumption | omega) (fun q0 z0 => by obtain rfl := Option.some.inj ((e6).symm.trans z0); (try rw [c245]); first | done | with_reducible assumption | omega) (fun q0 z0 => by obtain rfl := Option.some.inj ((e6).symm.trans z0); (try rw [c247]); first | done | with_reducible assumption | omega) (fun q0 z0 => by obtain rfl := Option.some.inj ((e6).symm.trans z0); (try rw [c249]); first | done | with_reducible assumption | omega) (by (try rw [c251]); first | done | with_reducible assumption | omega) (by (try rw [c253]); first | done | with_reducible assumption | omega) (fun q0 z0 => by obtain rfl := Option.some.inj ((e6).symm.trans z0); (try rw [c255]); first | done | with_reducible assumption | omega) (by first | done | assumption)) ?_
          rintro v351 cn' K' N' I346 R347 L348 ⟨rfl, rfl, rfl, rfl, g349, gl350, h352, rp353, rp354, dj355, -⟩
          have hS356 := hS218.tr g349 (by decide +kernel) (by decide +kernel)
          have c357 : I346 a0 1 = v222 := (g349.cell ta0 (by decide +kernel)).trans c223
          have hO358 : FrO 2 a1 T I0 I346 := hO221.tr (rp354 _ e6)
          have hL359 := hL219.tr gl350 (by decide +kernel)
          rcases dj355 with ⟨p360, p361, p362, p363, p364, p365, p366, p367, p368, p369, p370, p371, p372, p373, p374, p375, p376, p377, rp378, rp379, -⟩ | ⟨p380, p381, p382, p383, -⟩
          · skip
            obtain ⟨v384, c385⟩ : ∃ v, I346 a0 15 = v := ⟨_, rfl⟩
            rw [c385] at p361
            rw [c225] at p361
            obtain ⟨v386, c387⟩ : ∃ v, I346 a1 0 = v := ⟨_, rfl⟩
            have b388 := iv2_0 hS356.1 ta1 c387
            have p389 := p363 _ e6
            clear p363
            rw [c387] at p389
            obtain ⟨v390, c391⟩ : ∃ v, I346 a1 1 = v := ⟨_, rfl⟩
            have b392 := iv2_1 hS356.1 ta1 c391
            have p393 := p364 _ e6
            clear p364
            rw [c391] at p393
            obtain ⟨v394, c395⟩ : ∃ v, I346 a1 3 = v := ⟨_, rfl⟩
            have b396 := iv2_3 hS356.1 ta1 c395
            have p397 := p365 _ e6
            clear p365
            rw [c395] at p397
            obtain ⟨v398, c399⟩ : ∃ v, I346 a1 5 = v := ⟨_, rfl⟩
            have b400 := iv2_5 hS356.1 ta1 c399
            have p401 := p366 _ e6
            clear p366
            rw [c399] at p401
            obtain ⟨v402, c403⟩ : ∃ v, I346 a1 9 = v := ⟨_, rfl⟩
            have b404 := iv2_9 hS356.1 ta1 c403
            have p405 := p367 _ e6
            clear p367
            rw [c403] at p405
            obtain ⟨v406, c407⟩ : ∃ v, I346 a1 11 = v := ⟨_, rfl⟩
            have b408 := iv2_11 hS356.1 ta1 c407
            have p409 := p368 _ e6
            clear p368
            rw [c407] at p409
            obtain ⟨v410, c411⟩ : ∃ v, I346 a1 13 = v := ⟨_, rfl⟩
            have b412 := iv2_13 hS356.1 ta1 c411
            have p413 := p369 _ e6
            clear p369
            rw [c411] at p413
            obtain ⟨v414, c415⟩ : ∃ v, I346 a0 11 = v := ⟨_, rfl⟩
            have b416 := iv7_11 hS356.1 ta0 c415
            rw [c415] at p370
            obtain ⟨v417, c418⟩ : ∃ v, I346 a0 12 = v := ⟨_, rfl⟩
            have b419 := iv7_12 hS356.1 ta0 c418
            rw [c418] at p371
            obtain ⟨v420, c421⟩ : ∃ v, I346 a0 2 = v := ⟨_, rfl⟩
            have b422 := iv7_2 hS356.1 ta0 c421
            rw [c421] at p372
            obtain ⟨v423, c424⟩ : ∃ v, I346 a0 4 = v := ⟨_, rfl⟩
            have b425 := iv7_4 hS356.1 ta0 c424
            rw [c424] at p373
            obtain ⟨v426, c427⟩ : ∃ v, I346 a0 3 = v := ⟨_, rfl⟩
            have b428 := iv7_3 hS356.1 ta0 c427
            rw [c427] at p374
            obtain ⟨y429, c430⟩ : ∃ v, L348 a0 5 = v := ⟨_, rfl⟩
            rw [c430] at p375
            obtain ⟨v431, c432⟩ : ∃ v, I346 a0 6 = v := ⟨_, rfl⟩
            rw [c432] at p376
            obtain ⟨v433, c434⟩ : ∃ v, I346 a1 7 = v := ⟨_, rfl⟩
            have p435 := p377 _ e6
            clear p377
            rw [c434] at p435
            refine q_if_ne 64 dX7_readAll_59 (by decide) (fun h436 => ?_) (fun h436 => ?_)
            · skip
              refine tr_aload_n dX7_readAll_64 hl208 ?_
              refine q_getI dX7_readAll_65 fl7_58 (kR7 hS356.1 ta0) c427 ?_
              refine q_if_ne 96 dX7_readAll_68 (by decide) (fun h437 => ?_) (fun h437 => ?_)
              · skip
                refine tr_aload_n dX7_readAll_96 hl208 ?_
                refine q_getI dX7_readAll_97 fl7_58 (kR7 hS356.1 ta0) c427 ?_
                refine q_iconst dX7_readAll_100 (by decide) ?_
                intro v438 h439
                refine q_icmp_eq 110 dX7_readAll_101 (by decide) (fun h440 => ?_) (fun h440 => ?_)
                · skip
                  refine tr_aload_n dX7_readAll_110 hl208 ?_
                  refine q_callVv hE (M' := mX7_step) (as := []) dX7_readAll_111 lk7_51 inX7_step seX7_step myX7_step (by decide) ⟨by decide, by decide⟩ rfl (kR7 hS356.1 ta0) (Nat.le_of_ble_eq_true rfl) rfl rfl (by decide) (by decide) (fk_X7_step hS356.1 (gB) ((tkN gB (lnS gB gQ216 gs214))) ta0 (TxA.kp hT hS356 ta0 rfl rfl rfl (by decide +kernel) (by decide +kernel)) (by (try rw [c421]); first | done | with_reducible assumption | omega) (by (try rw [c357]); first | done | with_reducible assumption | omega)) ?_
                  rintro cn' K' N' I441 R442 L443 ⟨rfl, rfl, rfl, rfl, g444, gl445, p447, p448, p449, p450, p451, -⟩
                  have hS452 := hS356.tr g444 (by decide +kernel) (by decide +kernel)
                  have c453 : I441 a0 1 = v222 := (g444.cell ta0 (by decide +kernel)).trans c357
                  have c454 : I441 a0 15 = v384 := (g444.cell ta0 (by decide +kernel)).trans c385
                  have c455 : I441 a1 0 = v386 := (g444.cell ta1 (by decide +kernel)).trans c387
                  have c456 : I441 a1 1 = v390 := (g444.cell ta1 (by decide +kernel)).trans c391
                  have c457 : I441 a1 3 = v394 := (g444.cell ta1 (by decide +kernel)).trans c395
                  have c458 : I441 a1 5 = v398 := (g444.cell ta1 (by decide +kernel)).trans c399
                  have c459 : I441 a1 9 = v402 := (g444.cell ta1 (by decide +kernel)).trans c403
                  have c460 : I441 a1 11 = v406 := (g444.cell ta1 (by decide +kernel)).trans c407
                  have c461 : I441 a1 13 = v410 := (g444.cell ta1 (by decide +kernel)).trans c411
                  have c462 : I441 a0 11 = v414 := (g444.cell ta0 (by decide +kernel)).trans c415
                  have c463 : I441 a0 12 = v417 := (g444.cell ta0 (by decide +kernel)).trans c418
                  have c464 : I441 a1 7 = v433 := (g444.cell ta1 (by decide +kernel)).trans c434
                  have hO465 : FrO 2 a1 T I0 I441 := hO358.st g444 (by decide +kernel)
                  have hL466 := hL359.tr gl445 (by decide +kernel)
                  have hN467 : NmC L443 R4 a0 (lnQ gB gQ216 gs214) := NmC.kp rp378 gl445 hS452.1 ta0 (by decide +kernel) (by decide +kernel)
                  obtain ⟨v468, c469⟩ : ∃ v, I441 a0 2 = v := ⟨_, rfl⟩
                  have b470 := iv7_2 hS452.1 ta0 c469
                  rw [c469] at p447
                  obtain ⟨v471, c472⟩ : ∃ v, I441 a0 4 = v := ⟨_, rfl⟩
                  have b473 := iv7_4 hS452.1 ta0 c472
                  rw [c472] at p448
                  obtain ⟨v474, c475⟩ : ∃ v, I441 a0 3 = v := ⟨_, rfl⟩
                  have b476 := iv7_3 hS452.1 ta0 c475
                  rw [c475] at p449
                  obtain ⟨y477, c478⟩ : ∃ v, L443 a0 5 = v := ⟨_, rfl⟩
                  rw [c478] at p450
                  obtain ⟨v479, c480⟩ : ∃ v, I441 a0 6 = v := ⟨_, rfl⟩
                  rw [c480] at p451
                  refine q_iincE dX7_readAll_114 hl211 (by decide) (by decide) (by intro j1 j2; exact om_6e16a9c7 g269 g270 g271) ?_
                  intro v481 h482
                  refine tr_goto 48 dX7_readAll_117 (by decide) ?_
                  exact ih290 _ v481 I441 L443 ((tkN gB (lnS gB gQ216 gs214))) (gk306) ((lnQ gB gQ216 gs214)) ((lnE gB gQ216 gs214 gE217)) v222 v384 v468 v471 v474 y477 v479 v386 v390 v394 v398 v402 v406 v410 v414 v417 v433 hl208 hl209 hl210 rfl hS452 hL466 hN467 hO465 c453 c454 c469 c472 c475 c478 c480 c455 c456 c457 c458 c459 c460 c461 c462 c463 c464 (by rw [← g256]; simp only [lsF, ↓reduceIte]; exact om_4a7f572d p362 p374 h439 h440) (by rw [← g257]; simp only [lsP, ↓reduceIte]; exact om_9b5eadeb p362 p374 h439 h440) (by rw [← g258]; simp only [lsC, ↓reduceIte]; exact om_5546231b p362 p374 h439 h440) (by rw [← g259]; simp only [lsA0, ↓reduceIte]; exact om_94e718db p362 p374 h439 h440) (by rw [← g260]; simp only [lsA5, ↓reduceIte]; exact om_94e718db p362 p374 h439 h440) (by rw [← g261]; simp only [lsA2, ↓reduceIte]; exact om_94e718db p362 p374 h439 h440) (by rw [← g262]; simp only [lsA1, ↓reduceIte]; exact om_94e718db p362 p374 h439 h440) (by rw [← g263]; simp only [lsA3, ↓reduceIte]; exact om_5546231b p362 p374 h439 h440) (by rw [← g264]; simp only [lsA4, ↓reduceIte]; exact om_94e718db p362 p374 h439 h440) (by rw [← g265]; simp only [lsA6, ↓reduceIte]; exact om_94e718db p362 p374 h439 h440) (by rw [← g266]; simp only [lsA9, ↓reduceIte]; exact om_94e718db p362 p374 h439 h440) (by exact om_acd7a85a g267) (by exact om_d12bbb76 g268 p361) (by exact om_7639a54d g269 g270 g271 h482) (by exact om_b3c88cb2 g269 g270 g271 h482) (by exact om_6737e945 g271 h482) (by exact om_acd7a85a p447) (by exact om_acd7a85a p448) (by exact om_acd7a85a p449) (by assumption) (by assumption) (by exact om_acd7a85a p389) (by exact om_acd7a85a p393) (by exact om_acd7a85a p397) (by exact om_acd7a85a p401) (by exact om_acd7a85a p405) (by exact om_acd7a85a p409) (by exact om_acd7a85a p413) (by exact om_acd7a85a p370) (by exact om_acd7a85a p371) (by exact om_acd7a85a p435) (UpB.ln g287) ⟨fun hD => AlC.kp (rp379 _ _ e6 (hD.cr hW0 ta1 (fun j => (hSR.rcell ta1 (wm_no (by decide +kernel)))) (fun a j h => by unfold Rr at h; rcases h with h | h | h | h | h <;> exact (hSR.rcell h (wm_no (by decide +kernel))))) (rw288.1 hD)) hWR ta1 (g444.cell ta1 (wm_no (by decide +kernel))) (show RoF rdc T _ _ from ((RoF.rf (ex := rdc) (T := T)).tr (RoF.st g444 (by decide +kernel)))), by rw [← rw288.2, lsE, if_neg (by exact om_9d9e5419 p362), if_neg (by exact om_47db3d72 p374 h439 h440), if_neg (by exact om_dd661f05 p374 h439 h440)]⟩ ((rw289.tr (FrK.cr (rp353 _ e6) hWR ta1 (fun j => (hSR.rcell ta1 (wm_no (by decide +kernel))).symm) (fun a j h => by unfold Rr at h; rcases h with h | h | h | h | h <;> exact (hSR.rcell h (wm_no (by decide +kernel))).symm))).st g444 (by decide +kernel)) (by exact om_4b93d063 g269 g270 hm290 g271 p360 p374 h436 h437 h439 h440 h482)
                · skip
                  refine tr_aload_n dX7_readAll_104 hl208 ?_
                  refine q_iconst dX7_readAll_105 (by decide) ?_
                  intro v483 h484
                  refine q_callVi hE (M' := mX7_fail) (as := [_]) dX7_readAll_106 lk7_64 inX7_fail seX7_fail myX7_fail (by decide) ⟨by decide, by decide⟩ rfl (kR7 hS356.1 ta0) (Nat.le_of_ble_eq_true rfl) rfl rfl (by decide) (by decide) (fk_X7_fail hS356.1  ta0 (by exact om_95922198 h484)) ?_
                  rintro v490 cn' K' N' I485 R486 L487 ⟨rfl, rfl, rfl, rfl, rfl, g488, h491, p492, p493, p494, -⟩
                  have hS495 := hS356.tr g488 (by decide +kernel) (by decide +kernel)
                  have c496 : I485 a0 1 = v222 := (g488.cell ta0 (by decide +kernel)).trans c357
                  have c497 : I485 a1 0 = v386 := (g488.cell ta1 (by decide +kernel)).trans c387
                  have c498 : I485 a1 1 = v390 := (g488.cell ta1 (by decide +kernel)).trans c391
                  have c499 : I485 a1 3 = v394 := (g488.cell ta1 (by decide +kernel)).trans c395
                  have c500 : I485 a1 5 = v398 := (g488.cell ta1 (by decide +kernel)).trans c399
                  have c501 : I485 a1 9 = v402 := (g488.cell ta1 (by decide +kernel)).trans c403
                  have c502 : I485 a1 11 = v406 := (g488.cell ta1 (by decide +kernel)).trans c407
                  have c503 : I485 a1 13 = v410 := (g488.cell ta1 (by decide +kernel)).trans c411
                  have c504 : I485 a0 11 = v414 := (g488.cell ta0 (by decide +kernel)).trans c415
                  have c505 : I485 a0 12 = v417 := (g488.cell ta0 (by decide +kernel)).trans c418
                  have c506 : I485 a0 2 = v420 := (g488.cell ta0 (by decide +kernel)).trans c421
                  have c507 : I485 a0 4 = v423 := (g488.cell ta0 (by decide +kernel)).trans c424
                  have c508 : I485 a0 3 = v426 := (g488.cell ta0 (by decide +kernel)).trans c427
                  have c509 : I485 a0 6 = v431 := (g488.cell ta0 (by decide +kernel)).trans c432
                  have c510 : I485 a1 7 = v433 := (g488.cell ta1 (by decide +kernel)).trans c434
                  have hO511 : FrO 2 a1 T I0 I485 := hO358.st g488 (by decide +kernel)
                  obtain ⟨v512, c513⟩ : ∃ v, I485 a0 15 = v := ⟨_, rfl⟩
                  rw [c513] at p493
                  obtain ⟨v514, c515⟩ : ∃ v, I485 a0 16 = v := ⟨_, rfl⟩
                  rw [c515] at p494
                  rw [c424] at p494
                  exact tr_zret hZ dX7_readAll_109 rfl (ti_b01 (by exact om_d99fa9e4 p492) (by exact om_d3de7ec9 p492)) (by decide) (by decide) ⟨v490, rfl, rfl, rfl, rfl, hS495, hL359, (by exact om_be53a44c h491), ((rw289.tr (FrK.cr (rp353 _ e6) hWR ta1 (fun j => (hSR.rcell ta1 (wm_no (by decide +kernel))).symm) (fun a j h => by unfold Rr at h; rcases h with h | h | h | h | h <;> exact (hSR.rcell h (wm_no (by decide +kernel))).symm))).st g488 (by decide +kernel)), hO511, (Or.inr (⟨(by first | done | with_reducible assumption | omega), (by rw [← g256]; simp only [lsF, ↓reduceIte]; exact om_334fb9ec p374 h437 h439 h440), (by (try rw [c513]); rw [← g256]; simp only [lsF, ↓reduceIte]; exact om_7a744a78 p362 p374 h437 h439 h440 h484 p493), (by (try rw [c515]); rw [← g257]; simp only [lsP, ↓reduceIte]; exact om_b76490cf p362 p373 b425.2 b425.1 p374 h437 h439 h440 p494), trivial⟩)), trivial⟩
              · skip
                refine tr_aload_n dX7_readAll_71 hl208 ?_
                refine tr_getR dX7_readAll_72 fl7_22 (kR7 hS356.1 ta0) e6 ?_
                refine q_getI dX7_readAll_75 fl7_61 (kR2 hS356.1 ta1) c399 ?_
                refine q_if_gt 90 dX7_readAll_78 (by decide) (fun h516 => ?_) (fun h516 => ?_)
                · skip
                  refine q_iconst dX7_readAll_90 (by decide) ?_
                  intro v517 h518
                  refine tr_goto 95 dX7_readAll_91 (by decide) ?_
                  obtain ⟨v519, c520⟩ : ∃ v, I346 a0 16 = v := ⟨_, rfl⟩
                  exact tr_zret hZ dX7_readAll_95 rfl (ti_b01 (by exact om_f9079521 h518) (by exact om_e6632817 h518)) (by decide) (by decide) ⟨v517, rfl, rfl, rfl, rfl, hS356, hL359, (by exact om_d753bc65 h518), (rw289.tr (FrK.cr (rp353 _ e6) hWR ta1 (fun j => (hSR.rcell ta1 (wm_no (by decide +kernel))).symm) (fun a j h => by unfold Rr at h; rcases h with h | h | h | h | h <;> exact (hSR.rcell h (wm_no (by decide +kernel))).symm))), hO358, (Or.inl ⟨(by first | done | with_reducible assumption | omega), (by rw [← g256]; simp only [lsF, ↓reduceIte]; exact om_04a7a3a2 p362 b400.2 b400.1 p401 p374 h437 h516), (by (try rw [c385]); first | done | with_reducible assumption | exact om_d12bbb76 g268 p361), (by (try rw [c399]); rw [← g258]; simp only [lsC, ↓reduceIte]; exact om_10d7ef69 p362 b400.2 b400.1 p401 p374 h437 h516), (by (try rw [c387]); rw [← g259]; simp only [lsA0, ↓reduceIte]; exact om_6e094d8e p362 b388.2 b388.1 p389 b400.2 b400.1 p401 p374 h437 h516), (by (try rw [c407]); rw [← g260]; simp only [lsA5, ↓reduceIte]; exact om_e88096b8 p362 b400.2 b400.1 p401 b408.2 b408.1 p409 p374 h437 h516), (by (try rw [c395]); rw [← g261]; simp only [lsA2, ↓reduceIte]; exact om_623af259 p362 b396.2 b396.1 p397 b400.2 b400.1 p401 p374 h437 h516), (by (try rw [c391]); rw [← g262]; simp only [lsA1, ↓reduceIte]; exact om_1d0fff45 p362 b392.2 b392.1 p393 b400.2 b400.1 p401 p374 h437 h516), (by (try rw [c399]); rw [← g263]; simp only [lsA3, ↓reduceIte]; exact om_10d7ef69 p362 b400.2 b400.1 p401 p374 h437 h516), (by (try rw [c403]); rw [← g264]; simp only [lsA4, ↓reduceIte]; exact om_ad5ad0fa p362 b400.2 b400.1 p401 b404.2 b404.1 p405 p374 h437 h516), (by (try rw [c411]); rw [← g265]; simp only [lsA6, ↓reduceIte]; exact om_f5ab5870 p362 b400.2 b400.1 p401 b412.2 b412.1 p413 p374 h437 h516), (by (try rw [c434]); rw [← g266]; simp only [lsA9, ↓reduceIte]; exact om_01c9f3bb p362 b400.2 b400.1 p401 p374 p435 h437 h516), (fun hD => by have e : lsE gB 901 0 Q00 E00 = lnE gB gQ216 gs214 gE217 := (by rw [← rw288.2, lsE, if_neg (by exact om_9d9e5419 p362), if_pos (by exact om_146e4dfc p374 h437)]); rw [e]; exact AlC.cr (AlC.no (c' := cnt gB) (AlC.kp (rp379 _ _ e6 (hD.cr hW0 ta1 (fun j => (hSR.rcell ta1 (wm_no (by decide +kernel)))) (fun a j h => by unfold Rr at h; rcases h with h | h | h | h | h <;> exact (hSR.rcell h (wm_no (by decide +kernel))))) (rw288.1 hD)) hWR ta1 rfl (show RoF rdc T _ _ from (RoF.rf (ex := rdc) (T := T)))) ⟨(by show lsA0 gB 901 0 Q00 = _; rw [← g259, lsA0, if_neg (by exact om_9d9e5419 p362), if_pos (by exact om_146e4dfc p374 h437), if_pos (by exact om_a39c01ec b400.2 b400.1 p401 h516)]), (by show lsA2 gB 901 0 Q00 = _; rw [← g261, lsA2, if_neg (by exact om_9d9e5419 p362), if_pos (by exact om_146e4dfc p374 h437), if_pos (by exact om_a39c01ec b400.2 b400.1 p401 h516)]), (by show lsA3 gB 901 0 Q00 = _; rw [← g263, lsA3, if_neg (by exact om_9d9e5419 p362), if_pos (by exact om_146e4dfc p374 h437), if_pos (by exact om_a39c01ec b400.2 b400.1 p401 h516)]), (by show lsA4 gB 901 0 Q00 = _; rw [← g264, lsA4, if_neg (by exact om_9d9e5419 p362), if_pos (by exact om_146e4dfc p374 h437), if_pos (by exact om_a39c01ec b400.2 b400.1 p401 h516)]), (by show lsA5 gB 901 0 Q00 = _; rw [← g260, lsA5, if_neg (by exact om_9d9e5419 p362), if_pos (by exact om_146e4dfc p374 h437), if_pos (by exact om_a39c01ec b400.2 b400.1 p401 h516)]), (by show lsA6 gB 901 0 Q00 = _; rw [← g265, lsA6, if_neg (by exact om_9d9e5419 p362), if_pos (by exact om_146e4dfc p374 h437), if_pos (by exact om_a39c01ec b400.2 b400.1 p401 h516)])⟩ (by show lsA9 gB 901 0 Q00 = _; rw [← g266, lsA9, if_neg (by exact om_9d9e5419 p362), if_pos (by exact om_146e4dfc p374 h437), if_pos (by exact om_a39c01ec b400.2 b400.1 p401 h516)]) (fun _ _ => rfl)) hWR ta1 (fun j => (hSR.rcell ta1 (wm_no (by decide +kernel))).symm) (fun a j h => by unfold Rr at h; rcases h with h | h | h | h | h <;> exact (hSR.rcell h (wm_no (by decide +kernel))).symm)), trivial⟩), trivial⟩
                · skip
                  refine tr_aload_n dX7_readAll_81 hl208 ?_
                  refine q_bipush dX7_readAll_82 (by decide +kernel) ?_
                  intro v521 h522
                  refine q_callVi hE (M' := mX7_fail) (as := [_]) dX7_readAll_84 lk7_64 inX7_fail seX7_fail myX7_fail (by decide) ⟨by decide, by decide⟩ rfl (kR7 hS356.1 ta0) (Nat.le_of_ble_eq_true rfl) rfl rfl (by decide) (by decide) (fk_X7_fail hS356.1  ta0 (by exact om_54a92a42 h522)) ?_
                  rintro v528 cn' K' N' I523 R524 L525 ⟨rfl, rfl, rfl, rfl, rfl, g526, h529, p530, p531, p532, -⟩
                  have hS533 := hS356.tr g526 (by decide +kernel) (by decide +kernel)
                  have c534 : I523 a0 1 = v222 := (g526.cell ta0 (by decide +kernel)).trans c357
                  have c535 : I523 a1 0 = v386 := (g526.cell ta1 (by decide +kernel)).trans c387
                  have c536 : I523 a1 1 = v390 := (g526.cell ta1 (by decide +kernel)).trans c391
                  have c537 : I523 a1 3 = v394 := (g526.cell ta1 (by decide +kernel)).trans c395
                  have c538 : I523 a1 5 = v398 := (g526.cell ta1 (by decide +kernel)).trans c399
                  have c539 : I523 a1 9 = v402 := (g526.cell ta1 (by decide +kernel)).trans c403
                  have c540 : I523 a1 11 = v406 := (g526.cell ta1 (by decide +kernel)).trans c407
                  have c541 : I523 a1 13 = v410 := (g526.cell ta1 (by decide +kernel)).trans c411
                  have c542 : I523 a0 11 = v414 := (g526.cell ta0 (by decide +kernel)).trans c415
                  have c543 : I523 a0 12 = v417 := (g526.cell ta0 (by decide +kernel)).trans c418
                  have c544 : I523 a0 2 = v420 := (g526.cell ta0 (by decide +kernel)).trans c421
                  have c545 : I523 a0 4 = v423 := (g526.cell ta0 (by decide +kernel)).trans c424
                  have c546 : I523 a0 3 = v426 := (g526.cell ta0 (by decide +kernel)).trans c427
                  have c547 : I523 a0 6 = v431 := (g526.cell ta0 (by decide +kernel)).trans c432
                  have c548 : I523 a1 7 = v433 := (g526.cell ta1 (by decide +kernel)).trans c434
                  have hO549 : FrO 2 a1 T I0 I523 := hO358.st g526 (by decide +kernel)
                  obtain ⟨v550, c551⟩ : ∃ v, I523 a0 15 = v := ⟨_, rfl⟩
                  rw [c551] at p531
                  obtain ⟨v552, c553⟩ : ∃ v, I523 a0 16 = v := ⟨_, rfl⟩
                  rw [c553] at p532
                  rw [c424] at p532
                  refine q_if_eq 94 dX7_readAll_87 (by decide) (fun h554 => ?_) (fun h554 => ?_)
                  · skip
                    refine q_iconst dX7_readAll_94 (by decide) ?_
                    intro v555 h556
                    exact tr_zret hZ dX7_readAll_95 rfl (ti_b01 (by exact om_d99fa9e4 h556) (by exact om_d3de7ec9 h556)) (by decide) (by decide) ⟨v555, rfl, rfl, rfl, rfl, hS533, hL359, (by exact om_3b50ecb9 h556), ((rw289.tr (FrK.cr (rp353 _ e6) hWR ta1 (fun j => (hSR.rcell ta1 (wm_no (by decide +kernel))).symm) (fun a j h => by unfold Rr at h; rcases h with h | h | h | h | h <;> exact (hSR.rcell h (wm_no (by decide +kernel))).symm))).st g526 (by decide +kernel)), hO549, (Or.inr (⟨(by first | done | with_reducible assumption | omega), (by rw [← g256]; simp only [lsF, ↓reduceIte]; exact om_bbbc31af b400.2 b400.1 p401 p374 h437 h516), (by (try rw [c551]); rw [← g256]; simp only [lsF, ↓reduceIte]; exact om_20236b7e p362 b400.2 b400.1 p401 p374 h437 h516 h522 p531), (by (try rw [c553]); rw [← g257]; simp only [lsP, ↓reduceIte]; exact om_06ad5e90 p362 b400.2 b400.1 p401 p373 p374 h437 h516 p532), trivial⟩)), trivial⟩
                  · skip
                    exfalso; exact om_3a97d4a5 p530 h554
            · skip
              exfalso; exact om_3624102b p360 h436
          · skip
            obtain ⟨v557, c558⟩ : ∃ v, I346 a0 15 = v := ⟨_, rfl⟩
            rw [c558] at p382
            obtain ⟨v559, c560⟩ : ∃ v, I346 a0 16 = v := ⟨_, rfl⟩
            rw [c560] at p383
            refine q_if_ne 64 dX7_readAll_59 (by decide) (fun h561 => ?_) (fun h561 => ?_)
            · skip
              exfalso; exact om_3a97d4a5 p380 h561
            · skip
              refine q_iconst dX7_readAll_62 (by decide) ?_
              intro v562 h563
              obtain ⟨v564, c565⟩ : ∃ v, I346 a1 5 = v := ⟨_, rfl⟩
              have b566 := iv2_5 hS356.1 ta1 c565
              obtain ⟨v567, c568⟩ : ∃ v, I346 a1 0 = v := ⟨_, rfl⟩
              have b569 := iv2_0 hS356.1 ta1 c568
              obtain ⟨v570, c571⟩ : ∃ v, I346 a1 11 = v := ⟨_, rfl⟩
              have b572 := iv2_11 hS356.1 ta1 c571
              obtain ⟨v573, c574⟩ : ∃ v, I346 a1 3 = v := ⟨_, rfl⟩
              have b575 := iv2_3 hS356.1 ta1 c574
              obtain ⟨v576, c577⟩ : ∃ v, I346 a1 1 = v := ⟨_, rfl⟩
              have b578 := iv2_1 hS356.1 ta1 c577
              obtain ⟨v579, c580⟩ : ∃ v, I346 a1 9 = v := ⟨_, rfl⟩
              have b581 := iv2_9 hS356.1 ta1 c580
              obtain ⟨v582, c583⟩ : ∃ v, I346 a1 13 = v := ⟨_, rfl⟩
              have b584 := iv2_13 hS356.1 ta1 c583
              obtain ⟨v585, c586⟩ : ∃ v, I346 a1 7 = v := ⟨_, rfl⟩
              exact tr_zret hZ dX7_readAll_63 rfl (ti_b01 (by exact om_d99fa9e4 h563) (by exact om_d3de7ec9 h563)) (by decide) (by decide) ⟨v562, rfl, rfl, rfl, rfl, hS356, hL359, (by exact om_3b50ecb9 h563), (rw289.tr (FrK.cr (rp353 _ e6) hWR ta1 (fun j => (hSR.rcell ta1 (wm_no (by decide +kernel))).symm) (fun a j h => by unfold Rr at h; rcases h with h | h | h | h | h <;> exact (hSR.rcell h (wm_no (by decide +kernel))).symm))), hO358, (Or.inr (⟨(by first | done | with_reducible assumption | omega), (by rw [← g256]; simp only [lsF, ↓reduceIte]; exact om_c099efaa p381), (by (try rw [c558]); rw [← g256]; simp only [lsF, ↓reduceIte]; exact om_8d90ab30 p381 p382), (by (try rw [c560]); rw [← g257]; simp only [lsP, ↓reduceIte]; exact om_76a94d27 p381 p383), trivial⟩)), trivial⟩
  exact lp290 _ _ v205 I163 L165 (0) (901) (Q00) (E00) x2 v87 v191 v194 v197 y200 v202 v27 v30 v33 v36 v39 v42 v45 v54 v70 v48 rfl rfl rfl rfl hS174 hL190 hN204 hO189 c188 c186 c192 c195 c198 c201 c203 c175 c176 c177 c178 c179 c180 c181 c184 c185 c182 (by first | rfl | (congr 1; omega) | (congr 2 <;> omega)) (by first | rfl | (congr 1; omega) | (congr 2 <;> omega)) (by first | rfl | (congr 1; omega) | (congr 2 <;> omega)) (by first | rfl | (congr 1; omega) | (congr 2 <;> omega)) (by first | rfl | (congr 1; omega) | (congr 2 <;> omega)) (by first | rfl | (congr 1; omega) | (congr 2 <;> omega)) (by first | rfl | (congr 1; omega) | (congr 2 <;> omega)) (by first | rfl | (congr 1; omega) | (congr 2 <;> omega)) (by first | rfl | (congr 1; omega) | (congr 2 <;> omega)) (by first | rfl | (congr 1; omega) | (congr 2 <;> omega)) (by first | rfl | (congr 1; omega) | (congr 2 <;> omega)) (by exact om_acd7a85a p1) (by exact om_29f55913 h88) (by exact om_d99fa9e4 h206) (by exact om_c2b07d34 h206) (by exact om_789ef40c h206) (by exact om_acd7a85a p169) (by exact om_acd7a85a p170) (by exact om_acd7a85a p171) (by assumption) (by assumption) (by exact om_5bac22bd p14 q00_0) (by exact om_5bac22bd p15 q00_1) (by exact om_5bac22bd p16 q00_2) (by exact om_5bac22bd p17 q00_3) (by exact om_5bac22bd p18 q00_4) (by exact om_5bac22bd p19 q00_5) (by exact om_5bac22bd p20 q00_6) (by exact om_5bac22bd h55 q00_7) (by exact om_5bac22bd h71 q00_8) (by exact om_5bac22bd p21 q00_9) (by unfold UpB Q00 pw; decide) ⟨fun hD => AlC.z (by rw [c182]; exact om_29f55913 p21) (fun o ho => by rw [hS174.rcell ta1 (by decide +kernel)] at ho; obtain rfl := Option.some.inj (d3.symm.trans ho); rw [c183]; exact om_29f55913 p53), rfl⟩ (((((((((FrK.rf (R := R0) (al := a1) (W := fun _ => True) (T := T)).tr (FrK.cr rp23 hWC ta1 (fun j => (hSC.rcell ta1 (wm_no (by decide +kernel))).symm) (fun a j h => by unfold Rr at h; rcases h with h | h | h | h | h <;> exact (hSC.rcell h (wm_no (by decide +kernel))).symm))).put f59 ta0 (by decide)).put f75 ta0 (by decide)).put f92 ta0 (by decide)).put f110 ta0 (by decide)).put f127 ta0 (by decide)).put f147 ta0 (by decide)).st g166 (by decide +kernel)) (Nat.lt_succ_self _)
def wik_X10_refused : List Nat := [81]
def wrk_X10_refused : List Nat := []
set_option maxHeartbeats 4000000 in
theorem fk_X10_refused {l : Launch} {T : Nat → Nat} {cn : Nat} {K N : Nat → Nat} {I0 : cz_I} {R0 : cz_R} {L0 : cz_L} {d : Int} (hW0 : Wf T cn K N I0 R0 d)  {a0 : Nat} (ta0 : T a0 = 1) {x1 : Int32} : ConE l mX10_refused [.ref a0, .int x1] cn K N I0 R0 L0 (ca_i (fun v cn' K' N' I' R' L' => cn = cn' ∧ K = K' ∧ N = N' ∧ R0 = R' ∧ L0 = L' ∧ St T cn K N d wik_X10_refused wrk_X10_refused I0 R0 I' R0 ∧ (v.toInt = -1) ∧ ((I' a0 17).toInt = x1.toInt) ∧ True)) := by
  refine ConE.of (by decide +kernel) rfl (Nat.le_of_ble_eq_true rfl) rfl (fun X hX hZ hE => ?_)
  subst hX
  have hS0 : St T cn K N d wik_X10_refused wrk_X10_refused I0 R0 I0 R0 := St.rf0 hW0
  refine tr_aload_n dX10_refused_0 rfl ?_
  refine tr_iload_n dX10_refused_1 rfl ?_
  refine q_putI dX10_refused_2 fl10_112 (kR1 hS0.1 ta0) (Or.inl rfl) hS0 ta0 (iokF rfl) rfl (by decide +kernel) ?_
  intro I1 hS2 e3 f4
  refine q_iconst dX10_refused_5 (by decide) ?_
  intro v5 h6
  exact tr_iret hZ dX10_refused_6 rfl (by decide) (by decide) ⟨v5, rfl, rfl, rfl, rfl, rfl, rfl, hS2, (by first | done | with_reducible assumption | omega), (by (try rw [e3]); first | done | with_reducible assumption | omega), trivial⟩
def wik_X3_clear : List Nat := [512, 513, 514]
def wrk_X3_clear : List Nat := []
set_option maxHeartbeats 4000000 in
theorem fk_X3_clear {l : Launch} {T : Nat → Nat} {cn : Nat} {K N : Nat → Nat} {I0 : cz_I} {R0 : cz_R} {L0 : cz_L} {d : Int} (hW0 : Wf T cn K N I0 R0 d)  {a0 : Nat} (ta0 : T a0 = 8) : ConE l mX3_clear [.ref a0] cn K N I0 R0 L0 (ca_v (fun cn' K' N' I' R' L' => cn = cn' ∧ K = K' ∧ N = N' ∧ R0 = R' ∧ L0 = L' ∧ St T cn K N d wik_X3_clear wrk_X3_clear I0 R0 I' R0 ∧ ((I' a0 0).toInt = 0) ∧ ((I' a0 1).toInt = 0) ∧ ((I' a0 2).toInt = 0) ∧ True)) := by
  refine ConE.of (by decide +kernel) rfl (Nat.le_of_ble_eq_true rfl) rfl (fun X hX hZ hE => ?_)
  subst hX
  have hS0 : St T cn K N d wik_X3_clear wrk_X3_clear I0 R0 I0 R0 := St.rf0 hW0
  refine tr_aload_n dX3_clear_0 rfl ?_
  refine q_iconst dX3_clear_1 (by decide) ?_
  intro v1 h2
  refine q_putI dX3_clear_2 fl3_18 (kR8 hS0.1 ta0) (Or.inl rfl) hS0 ta0 (iokF rfl) rfl (by decide +kernel) ?_
  intro I3 hS4 e5 f6
  refine tr_aload_n dX3_clear_5 rfl ?_
  refine q_iconst dX3_clear_6 (by decide) ?_
  intro v7 h8
  refine q_putI dX3_clear_7 fl3_22 (kR8 hS4.1 ta0) (Or.inl rfl) hS4 ta0 (by show (0 : Int) ≤ v7.toInt ∧ v7.toInt ≤ (65536 : Int); exact om_a4a2c3e9 h8) rfl (by decide +kernel) ?_
  intro I9 hS10 e11 f12
  have c13 : I9 a0 0 = v1 := (f12 _ _ (fun q => absurd q.2 (by decide))).trans e5
  refine tr_aload_n dX3_clear_10 rfl ?_
  refine q_iconst dX3_clear_11 (by decide) ?_
  intro v14 h15
  refine q_putI dX3_clear_12 fl3_25 (kR8 hS10.1 ta0) (Or.inl rfl) hS10 ta0 (by show (0 : Int) ≤ v14.toInt ∧ v14.toInt ≤ (6 : Int); exact om_a3bde316 h15) rfl (by decide +kernel) ?_
  intro I16 hS17 e18 f19
  have c20 : I16 a0 0 = v1 := (f19 _ _ (fun q => absurd q.2 (by decide))).trans c13
  have c21 : I16 a0 1 = v7 := (f19 _ _ (fun q => absurd q.2 (by decide))).trans e11
  exact tr_vret hZ dX3_clear_15 rfl (by decide) (by decide) ⟨rfl, rfl, rfl, rfl, rfl, rfl, hS17, (by (try rw [c20]); first | done | with_reducible assumption | omega), (by (try rw [c21]); first | done | with_reducible assumption | omega), (by (try rw [e18]); first | done | with_reducible assumption | omega), trivial⟩
def wik_X6_clear : List Nat := [704, 706]
def wrk_X6_clear : List Nat := []
set_option maxHeartbeats 4000000 in
theorem fk_X6_clear {l : Launch} {T : Nat → Nat} {cn : Nat} {K N : Nat → Nat} {I0 : cz_I} {R0 : cz_R} {L0 : cz_L} {d : Int} (hW0 : Wf T cn K N I0 R0 d)  {a0 : Nat} (ta0 : T a0 = 11) : ConE l mX6_clear [.ref a0] cn K N I0 R0 L0 (ca_v (fun cn' K' N' I' R' L' => cn = cn' ∧ K = K' ∧ N = N' ∧ R0 = R' ∧ L0 = L' ∧ St T cn K N d wik_X6_clear wrk_X6_clear I0 R0 I' R0 ∧ ((I' a0 0).toInt = 0) ∧ ((I' a0 2).toInt = 0) ∧ True)) := by
  refine ConE.of (by decide +kernel) rfl (Nat.le_of_ble_eq_true rfl) rfl (fun X hX hZ hE => ?_)
  subst hX
  have hS0 : St T cn K N d wik_X6_clear wrk_X6_clear I0 R0 I0 R0 := St.rf0 hW0
  refine tr_aload_n dX6_clear_0 rfl ?_
  refine q_iconst dX6_clear_1 (by decide) ?_
  intro v1 h2
  refine q_putI dX6_clear_2 fl6_21 (kR11 hS0.1 ta0) (Or.inl rfl) hS0 ta0 (by show (0 : Int) ≤ v1.toInt ∧ v1.toInt ≤ (12 : Int); exact om_dbf687ed h2) rfl (by decide +kernel) ?_
  intro I3 hS4 e5 f6
  refine tr_aload_n dX6_clear_5 rfl ?_
  refine q_iconst dX6_clear_6 (by decide) ?_
  intro v7 h8
  refine q_putI dX6_clear_7 fl6_25 (kR11 hS4.1 ta0) (Or.inl rfl) hS4 ta0 (by show (0 : Int) ≤ v7.toInt ∧ v7.toInt ≤ (3 : Int); exact om_a28085d4 h8) rfl (by decide +kernel) ?_
  intro I9 hS10 e11 f12
  have c13 : I9 a0 0 = v1 := (f12 _ _ (fun q => absurd q.2 (by decide))).trans e5
  exact tr_vret hZ dX6_clear_10 rfl (by decide) (by decide) ⟨rfl, rfl, rfl, rfl, rfl, rfl, hS10, (by (try rw [c13]); first | done | with_reducible assumption | omega), (by (try rw [e11]); first | done | with_reducible assumption | omega), trivial⟩
def wik_X10_cloudsMoved : List Nat := [73, 75]
def wrk_X10_cloudsMoved : List Nat := []
set_option maxHeartbeats 4000000 in
theorem fk_X10_cloudsMoved {l : Launch} {T : Nat → Nat} {cn : Nat} {K N : Nat → Nat} {I0 : cz_I} {R0 : cz_R} {L0 : cz_L} {d : Int} (hW0 : Wf T cn K N I0 R0 d)  {a0 : Nat} (ta0 : T a0 = 1) : ConE l mX10_cloudsMoved [.ref a0] cn K N I0 R0 L0 (ca_v (fun cn' K' N' I' R' L' => cn = cn' ∧ K = K' ∧ N = N' ∧ R0 = R' ∧ L0 = L' ∧ St T cn K N d wik_X10_cloudsMoved wrk_X10_cloudsMoved I0 R0 I' R0 ∧ ((I' a0 9).toInt = 0) ∧ ((I' a0 11).toInt = 0) ∧ True)) := by
  refine ConE.of (by decide +kernel) rfl (Nat.le_of_ble_eq_true rfl) rfl (fun X hX hZ hE => ?_)
  subst hX
  have hS0 : St T cn K N d wik_X10_cloudsMoved wrk_X10_cloudsMoved I0 R0 I0 R0 := St.rf0 hW0
  refine tr_aload_n dX10_cloudsMoved_0 rfl ?_
  refine q_iconst dX10_cloudsMoved_1 (by decide) ?_
  intro v1 h2
  refine q_putZ dX10_cloudsMoved_2 fl10_358 (kR1 hS0.1 ta0) (Or.inl rfl) hS0 ta0 (by exact om_3b50ecb9 h2) (by show (0 : Int) ≤ v1.toInt ∧ v1.toInt ≤ (1 : Int); exact om_3b50ecb9 h2) rfl (by decide +kernel) ?_
  intro I3 hS4 e5 f6
  refine tr_aload_n dX10_cloudsMoved_5 rfl ?_
  refine q_iconst dX10_cloudsMoved_6 (by decide) ?_
  intro v7 h8
  refine q_putZ dX10_cloudsMoved_7 fl10_288 (kR1 hS4.1 ta0) (Or.inl rfl) hS4 ta0 (by exact om_3b50ecb9 h8) (by show (0 : Int) ≤ v7.toInt ∧ v7.toInt ≤ (1 : Int); exact om_3b50ecb9 h8) rfl (by decide +kernel) ?_
  intro I9 hS10 e11 f12
  have c13 : I9 a0 9 = v1 := (f12 _ _ (fun q => absurd q.2 (by decide))).trans e5
  exact tr_vret hZ dX10_cloudsMoved_10 rfl (by decide) (by decide) ⟨rfl, rfl, rfl, rfl, rfl, rfl, hS10, (by (try rw [c13]); first | done | with_reducible assumption | omega), (by (try rw [e11]); first | done | with_reducible assumption | omega), trivial⟩
def wik_X10_answered : List Nat := [81]
def wrk_X10_answered : List Nat := []
set_option maxHeartbeats 4000000 in
theorem fk_X10_answered {l : Launch} {T : Nat → Nat} {cn : Nat} {K N : Nat → Nat} {I0 : cz_I} {R0 : cz_R} {L0 : cz_L} {d : Int} (hW0 : Wf T cn K N I0 R0 d)  {a0 : Nat} (ta0 : T a0 = 1) {x1 : Int32} : ConE l mX10_answered [.ref a0, .int x1] cn K N I0 R0 L0 (ca_i (fun v cn' K' N' I' R' L' => cn = cn' ∧ K = K' ∧ N = N' ∧ R0 = R' ∧ L0 = L' ∧ St T cn K N d wik_X10_answered wrk_X10_answered I0 R0 I' R0 ∧ (v.toInt = x1.toInt) ∧ ((I' a0 17).toInt = 0) ∧ True)) := by
  refine ConE.of (by decide +kernel) rfl (Nat.le_of_ble_eq_true rfl) rfl (fun X hX hZ hE => ?_)
  subst hX
  have hS0 : St T cn K N d wik_X10_answered wrk_X10_answered I0 R0 I0 R0 := St.rf0 hW0
  refine tr_aload_n dX10_answered_0 rfl ?_
  refine q_iconst dX10_answered_1 (by decide) ?_
  intro v1 h2
  refine q_putI dX10_answered_2 fl10_112 (kR1 hS0.1 ta0) (Or.inl rfl) hS0 ta0 (iokF rfl) rfl (by decide +kernel) ?_
  intro I3 hS4 e5 f6
  refine tr_iload_n dX10_answered_5 rfl ?_
  exact tr_iret hZ dX10_answered_6 rfl (by decide) (by decide) ⟨x1, rfl, rfl, rfl, rfl, rfl, rfl, hS4, (by first | done | with_reducible assumption | exact om_4ee7209a), (by (try rw [e5]); first | done | with_reducible assumption | omega), trivial⟩
