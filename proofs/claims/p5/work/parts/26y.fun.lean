def wik_X12_refused : List Nat := [961, 962]
def wrk_X12_refused : List Nat := []
set_option maxHeartbeats 4000000 in
theorem fk_X12_refused {l : Launch} {T : Nat → Nat} {cn : Nat} {K N : Nat → Nat} {I0 : cz_I} {R0 : cz_R} {L0 : cz_L} {d : Int} (hW0 : Wf T cn K N I0 R0 d)  {a0 : Nat} (ta0 : T a0 = 15) {x1 : Int32} : ConE l mX12_refused [.ref a0, .int x1] cn K N I0 R0 L0 (ca_i (fun v cn' K' N' I' R' L' => cn = cn' ∧ K = K' ∧ N = N' ∧ R0 = R' ∧ L0 = L' ∧ St T cn K N d wik_X12_refused wrk_X12_refused I0 R0 I' R0 ∧ (v.toInt = -1) ∧ ((I' a0 1).toInt = x1.toInt) ∧ ((I' a0 2).toInt = -1) ∧ True)) := by
  refine ConE.of (by decide +kernel) rfl (Nat.le_of_ble_eq_true rfl) rfl (fun X hX hZ hE => ?_)
  subst hX
  have hS0 : St T cn K N d wik_X12_refused wrk_X12_refused I0 R0 I0 R0 := St.rf0 hW0
  refine tr_aload_n dX12_refused_0 rfl ?_
  refine tr_iload_n dX12_refused_1 rfl ?_
  refine q_putI dX12_refused_2 fl12_73 (kR15 hS0.1 ta0) (Or.inl rfl) hS0 ta0 (iokF rfl) rfl (by decide +kernel) ?_
  intro I1 hS2 e3 f4
  refine tr_aload_n dX12_refused_5 rfl ?_
  refine q_iconst dX12_refused_6 (by decide) ?_
  intro v5 h6
  refine q_putI dX12_refused_7 fl12_9 (kR15 hS2.1 ta0) (Or.inl rfl) hS2 ta0 (iokF rfl) rfl (by decide +kernel) ?_
  intro I7 hS8 e9 f10
  have c11 : I7 a0 1 = x1 := (f10 _ _ (fun q => absurd q.2 (by decide))).trans e3
  refine q_iconst dX12_refused_10 (by decide) ?_
  intro v12 h13
  exact tr_iret hZ dX12_refused_11 rfl (by decide) (by decide) ⟨v12, rfl, rfl, rfl, rfl, rfl, rfl, hS8, (by first | done | omega), (by (try rw [c11]); first | done | omega), (by (try rw [e9]); first | done | omega), trivial⟩
def wif_alpA : List Nat := [960, 961, 962, 966, 967, 968, 973]
def wrf_alpA : List Nat := []
def wlf_alpA : List Nat := []
set_option maxHeartbeats 4000000 in
theorem sf_alpA {X : cz_X} (hE : cz_env X) {T : Nat → Nat} {cn : Nat} {K N : Nat → Nat} {I0 : cz_I} {R0 : cz_R} {L0 : cz_L} {Q : cz_Q} (hZ : cz_Z X mX12_alp Q) {d : Int} (hW0 : Wf T cn K N I0 R0 d)  {a0 : Nat} (ta0 : T a0 = 15) {x1 : Int32} {ls : Nat → Option Value} (hl0 : ls 0 = some (.ref a0)) (hl1 : ls 1 = some (.int x1)) (hq : ∀ (v : Int32) (I' : cz_I) (R' : cz_R) (L' : cz_L), St T cn K N d wif_alpA wrf_alpA I0 R0 I' R' ∧ ((((x1.toInt < 0 ∨ x1.toInt > (I0 a0 6).toInt)) ∧ (v.toInt = -1) ∧ ((I' a0 6).toInt = (I0 a0 6).toInt) ∧ ((I' a0 13).toInt = (I0 a0 13).toInt) ∧ ((I' a0 1).toInt = 2) ∧ ((I' a0 2).toInt = -1) ∧ True)) ∧ True → Q (some (.int v)) cn K N I' R' L') (hk : ∀ (ls' : Nat → Option Value) (I' : cz_I) (R' : cz_R) (L' : cz_L), ls' 0 = ls 0 → ls' 1 = ls 1 → St T cn K N d wif_alpA wrf_alpA I0 R0 I' R' ∧ ((I' a0 6).toInt = 0) ∧ ((I' a0 13).toInt = 0) ∧ ((I' a0 7).toInt = x1.toInt) ∧ ((I' a0 8).toInt = 0) ∧ ((0 ≤ x1.toInt ∧ x1.toInt ≤ (I0 a0 6).toInt)) ∧ True → Tr X mX12_alp 43 ls' [] cn K N I' R' L' 0 0) : Tr X mX12_alp 0 ls [] cn K N I0 R0 L0 0 0 := by
  have hS0 : St T cn K N d wif_alpA wrf_alpA I0 R0 I0 R0 := St.rf0 hW0
  have hL0 : LgS T wlf_alpA L0 L0 := LgS.rf0
  obtain ⟨v1, c2⟩ : ∃ v, I0 a0 6 = v := ⟨_, rfl⟩
  have b3 := iv15_6 hS0.1 ta0 c2
  obtain ⟨v4, c5⟩ : ∃ v, I0 a0 13 = v := ⟨_, rfl⟩
  refine tr_aload_n dX12_alp_0 hl0 ?_
  refine q_iconst dX12_alp_1 (by decide) ?_
  intro v6 h7
  refine q_putI dX12_alp_2 fl12_70 (kR15 hS0.1 ta0) (Or.inl rfl) hS0 ta0 (iokF rfl) rfl (by decide +kernel) ?_
  intro I8 hS9 e10 f11
  have c12 : I8 a0 6 = v1 := (f11 _ _ (fun q => absurd q.2 (by decide))).trans c2
  have c13 : I8 a0 13 = v4 := (f11 _ _ (fun q => absurd q.2 (by decide))).trans c5
  refine tr_iload_n dX12_alp_5 hl1 ?_
  refine q_if_lt 17 dX12_alp_6 (by decide) (fun h14 => ?_) (fun h14 => ?_)
  · skip
    refine tr_aload_n dX12_alp_17 hl0 ?_
    refine q_iconst dX12_alp_18 (by decide) ?_
    intro v15 h16
    refine q_callVi hE (M' := mX12_refused) (as := [_]) dX12_alp_19 lk12_76 inX12_refused seX12_refused myX12_refused (by decide) ⟨by decide, by decide⟩ rfl (kR15 hS9.1 ta0) (Nat.le_of_ble_eq_true rfl) rfl rfl (by decide) (by decide) (fk_X12_refused hS9.1  ta0) ?_
    rintro v22 cn' K' N' I17 R18 L19 ⟨rfl, rfl, rfl, rfl, rfl, g20, p23, p24, p25, -⟩
    have hS26 := hS9.tr g20 (by decide +kernel) (by decide +kernel)
    have c27 : I17 a0 6 = v1 := (g20.cell ta0 (by decide +kernel)).trans c12
    have c28 : I17 a0 13 = v4 := (g20.cell ta0 (by decide +kernel)).trans c13
    have c29 : I17 a0 0 = v6 := (g20.cell ta0 (by decide +kernel)).trans e10
    obtain ⟨v30, c31⟩ : ∃ v, I17 a0 1 = v := ⟨_, rfl⟩
    rw [c31] at p24
    obtain ⟨v32, c33⟩ : ∃ v, I17 a0 2 = v := ⟨_, rfl⟩
    rw [c33] at p25
    exact tr_iret hZ dX12_alp_22 rfl (by decide) (by decide) (hq _ _ _ _ ⟨hS26, (⟨(by (try rw [c2]); first | done | omega), (by first | done | omega), (by (try rw [c27]); (try rw [c2]); first | done | omega), (by (try rw [c28]); (try rw [c5]); first | done | omega), (by (try rw [c31]); first | done | omega), (by (try rw [c33]); first | done | omega), trivial⟩), trivial⟩)
  · skip
    refine tr_iload_n dX12_alp_9 hl1 ?_
    refine tr_aload_n dX12_alp_10 hl0 ?_
    refine q_getI dX12_alp_11 fl12_378 (kR15 hS9.1 ta0) c12 ?_
    refine q_icmp_le 23 dX12_alp_14 (by decide) (fun h34 => ?_) (fun h34 => ?_)
    · skip
      refine tr_aload_n dX12_alp_23 hl0 ?_
      refine tr_iload_n dX12_alp_24 hl1 ?_
      refine q_putI dX12_alp_25 fl12_84 (kR15 hS9.1 ta0) (Or.inl rfl) hS9 ta0 (by show (0 : Int) ≤ x1.toInt ∧ x1.toInt ≤ (900 : Int); omega) rfl (by decide +kernel) ?_
      intro I35 hS36 e37 f38
      have c39 : I35 a0 6 = v1 := (f38 _ _ (fun q => absurd q.2 (by decide))).trans c12
      have c40 : I35 a0 13 = v4 := (f38 _ _ (fun q => absurd q.2 (by decide))).trans c13
      have c41 : I35 a0 0 = v6 := (f38 _ _ (fun q => absurd q.2 (by decide))).trans e10
      refine tr_aload_n dX12_alp_28 hl0 ?_
      refine q_iconst dX12_alp_29 (by decide) ?_
      intro v42 h43
      refine q_putI dX12_alp_30 fl12_378 (kR15 hS36.1 ta0) (Or.inl rfl) hS36 ta0 (by show (0 : Int) ≤ v42.toInt ∧ v42.toInt ≤ (900 : Int); omega) rfl (by decide +kernel) ?_
      intro I44 hS45 e46 f47
      have c48 : I44 a0 13 = v4 := (f47 _ _ (fun q => absurd q.2 (by decide))).trans c40
      have c49 : I44 a0 0 = v6 := (f47 _ _ (fun q => absurd q.2 (by decide))).trans c41
      have c50 : I44 a0 7 = x1 := (f47 _ _ (fun q => absurd q.2 (by decide))).trans e37
      refine tr_aload_n dX12_alp_33 hl0 ?_
      refine q_iconst dX12_alp_34 (by decide) ?_
      intro v51 h52
      refine q_putI dX12_alp_35 fl12_102 (kR15 hS45.1 ta0) (Or.inl rfl) hS45 ta0 (by show (0 : Int) ≤ v51.toInt ∧ v51.toInt ≤ (900 : Int); omega) rfl (by decide +kernel) ?_
      intro I53 hS54 e55 f56
      have c57 : I53 a0 13 = v4 := (f56 _ _ (fun q => absurd q.2 (by decide))).trans c48
      have c58 : I53 a0 0 = v6 := (f56 _ _ (fun q => absurd q.2 (by decide))).trans c49
      have c59 : I53 a0 7 = x1 := (f56 _ _ (fun q => absurd q.2 (by decide))).trans c50
      have c60 : I53 a0 6 = v42 := (f56 _ _ (fun q => absurd q.2 (by decide))).trans e46
      refine tr_aload_n dX12_alp_38 hl0 ?_
      refine q_iconst dX12_alp_39 (by decide) ?_
      intro v61 h62
      refine q_putI dX12_alp_40 fl12_128 (kR15 hS54.1 ta0) (Or.inl rfl) hS54 ta0 (iokF rfl) rfl (by decide +kernel) ?_
      intro I63 hS64 e65 f66
      have c67 : I63 a0 0 = v6 := (f66 _ _ (fun q => absurd q.2 (by decide))).trans c58
      have c68 : I63 a0 7 = x1 := (f66 _ _ (fun q => absurd q.2 (by decide))).trans c59
      have c69 : I63 a0 6 = v42 := (f66 _ _ (fun q => absurd q.2 (by decide))).trans c60
      have c70 : I63 a0 8 = v51 := (f66 _ _ (fun q => absurd q.2 (by decide))).trans e55
      exact hk _ _ _ _ (rfl) (rfl) ⟨hS64, (by (try rw [c69]); (try omega)), (by (try rw [e65]); (try omega)), (by (try rw [c68]); (try omega)), (by (try rw [c70]); (try omega)), (by (try rw [c2]); (try omega)), trivial⟩
    · skip
      refine tr_aload_n dX12_alp_17 hl0 ?_
      refine q_iconst dX12_alp_18 (by decide) ?_
      intro v71 h72
      refine q_callVi hE (M' := mX12_refused) (as := [_]) dX12_alp_19 lk12_76 inX12_refused seX12_refused myX12_refused (by decide) ⟨by decide, by decide⟩ rfl (kR15 hS9.1 ta0) (Nat.le_of_ble_eq_true rfl) rfl rfl (by decide) (by decide) (fk_X12_refused hS9.1  ta0) ?_
      rintro v78 cn' K' N' I73 R74 L75 ⟨rfl, rfl, rfl, rfl, rfl, g76, p79, p80, p81, -⟩
      have hS82 := hS9.tr g76 (by decide +kernel) (by decide +kernel)
      have c83 : I73 a0 6 = v1 := (g76.cell ta0 (by decide +kernel)).trans c12
      have c84 : I73 a0 13 = v4 := (g76.cell ta0 (by decide +kernel)).trans c13
      have c85 : I73 a0 0 = v6 := (g76.cell ta0 (by decide +kernel)).trans e10
      obtain ⟨v86, c87⟩ : ∃ v, I73 a0 1 = v := ⟨_, rfl⟩
      rw [c87] at p80
      obtain ⟨v88, c89⟩ : ∃ v, I73 a0 2 = v := ⟨_, rfl⟩
      rw [c89] at p81
      exact tr_iret hZ dX12_alp_22 rfl (by decide) (by decide) (hq _ _ _ _ ⟨hS82, (⟨(by (try rw [c2]); first | done | omega), (by first | done | omega), (by (try rw [c83]); (try rw [c2]); first | done | omega), (by (try rw [c84]); (try rw [c5]); first | done | omega), (by (try rw [c87]); first | done | omega), (by (try rw [c89]); first | done | omega), trivial⟩), trivial⟩)
def wik_X12_good : List Nat := [961, 962]
def wrk_X12_good : List Nat := []
set_option maxHeartbeats 4000000 in
theorem fk_X12_good {l : Launch} {T : Nat → Nat} {cn : Nat} {K N : Nat → Nat} {I0 : cz_I} {R0 : cz_R} {L0 : cz_L} {d : Int} (hW0 : Wf T cn K N I0 R0 d)  {a0 : Nat} (ta0 : T a0 = 15) {x1 : Int32} : ConE l mX12_good [.ref a0, .int x1] cn K N I0 R0 L0 (ca_i (fun v cn' K' N' I' R' L' => cn = cn' ∧ K = K' ∧ N = N' ∧ R0 = R' ∧ L0 = L' ∧ St T cn K N d wik_X12_good wrk_X12_good I0 R0 I' R0 ∧ (v.toInt = x1.toInt) ∧ ((I' a0 1).toInt = 0) ∧ ((I' a0 2).toInt = -1) ∧ True)) := by
  refine ConE.of (by decide +kernel) rfl (Nat.le_of_ble_eq_true rfl) rfl (fun X hX hZ hE => ?_)
  subst hX
  have hS0 : St T cn K N d wik_X12_good wrk_X12_good I0 R0 I0 R0 := St.rf0 hW0
  refine tr_aload_n dX12_good_0 rfl ?_
  refine q_iconst dX12_good_1 (by decide) ?_
  intro v1 h2
  refine q_putI dX12_good_2 fl12_73 (kR15 hS0.1 ta0) (Or.inl rfl) hS0 ta0 (iokF rfl) rfl (by decide +kernel) ?_
  intro I3 hS4 e5 f6
  refine tr_aload_n dX12_good_5 rfl ?_
  refine q_iconst dX12_good_6 (by decide) ?_
  intro v7 h8
  refine q_putI dX12_good_7 fl12_9 (kR15 hS4.1 ta0) (Or.inl rfl) hS4 ta0 (iokF rfl) rfl (by decide +kernel) ?_
  intro I9 hS10 e11 f12
  have c13 : I9 a0 1 = v1 := (f12 _ _ (fun q => absurd q.2 (by decide))).trans e5
  refine tr_iload_n dX12_good_10 rfl ?_
  exact tr_iret hZ dX12_good_11 rfl (by decide) (by decide) ⟨x1, rfl, rfl, rfl, rfl, rfl, rfl, hS10, (by first | done | omega), (by (try rw [c13]); first | done | omega), (by (try rw [e11]); first | done | omega), trivial⟩
def wif_alpB : List Nat := [896, 897, 898, 899, 900, 901, 902, 903, 904, 905, 961, 962, 968, 969, 970, 971, 972, 973, 974, 979, 980, 3455, 3519, 3583, 3647, 3711, 3775, 3839, 3903, 3967, 4031, 4095, 4159, 4223, 4287, 4351, 4415, 4479, 4543, 4607, 4671, 4799, 4863, 4991]
def wrf_alpB : List Nat := [963]
def wlf_alpB : List Nat := [975, 4735]
set_option maxHeartbeats 4000000 in
theorem sf_alpB {X : cz_X} (hE : cz_env X) {T : Nat → Nat} {cn : Nat} {K N : Nat → Nat} {I0 : cz_I} {R0 : cz_R} {L0 : cz_L} {Q : cz_Q} (hZ : cz_Z X mX12_alp Q) (hW0 : Wf T cn K N I0 R0 0) (gB : cz_B) {a0 : Nat} (ta0 : T a0 = 15) {x1 : Int32} (hT : ∀ t, R0 a0 5 = some t → Tx I0 t gB) (hN : ∀ b, R0 a0 4 = some b → NmM I0 R0 L0 b Q00) (pre0 : (I0 a0 13).toInt = 0) (pre1 : (I0 a0 8).toInt = 0) (pre2 : (I0 a0 7).toInt = (gB.2)) (pre3 : ∀ b1, R0 a0 4 = some b1 → (I0 b1 0).toInt = 0) (pre4 : ∀ b1, R0 a0 4 = some b1 → (I0 b1 1).toInt = 0) (pre5 : ∀ b1, R0 a0 4 = some b1 → (I0 b1 2).toInt = 0) (pre6 : ∀ b1, R0 a0 4 = some b1 → (I0 b1 3).toInt = 0) (pre7 : ∀ b1, R0 a0 4 = some b1 → (I0 b1 4).toInt = 0) (pre8 : ∀ b1, R0 a0 4 = some b1 → (I0 b1 5).toInt = 0) (pre9 : ∀ b1, R0 a0 4 = some b1 → (I0 b1 6).toInt = 0) (pre10 : ∀ b1, R0 a0 4 = some b1 → (I0 b1 9).toInt = 0) (nn4 : ∃ b, R0 a0 4 = some b) {ls : Nat → Option Value} (hl0 : ls 0 = some (.ref a0)) (hl1 : ls 1 = some (.int x1)) (hq : ∀ (v : Int32) (I' : cz_I) (R' : cz_R) (L' : cz_L), St T cn K N 0 wif_alpB wrf_alpB I0 R0 I' R' ∧ ((((lsF gB 901 0 Q00) = 0) ∧ (v.toInt = (lsC gB 901 0 Q00)) ∧ ((I' a0 6).toInt = (I0 a0 6).toInt) ∧ ((I' a0 13).toInt = 0) ∧ ((I' a0 1).toInt = 0) ∧ ((I' a0 2).toInt = -1) ∧ True) ∨ (((lsF gB 901 0 Q00) ≠ 0) ∧ (v.toInt = -1) ∧ ((I' a0 6).toInt = (I0 a0 6).toInt) ∧ ((I' a0 13).toInt = (lsF gB 901 0 Q00)) ∧ ((I' a0 1).toInt = 4) ∧ ((I' a0 2).toInt = (lsP gB 901 0 Q00)) ∧ True)) ∧ True → Q (some (.int v)) cn K N I' R' L') : Tr X mX12_alp 54 ls [] cn K N I0 R0 L0 24 247 := by
  have hS0 : St T cn K N 0 wif_alpB wrf_alpB I0 R0 I0 R0 := St.rf0 hW0
  have hL0 : LgS T wlf_alpB L0 L0 := LgS.rf0
  obtain ⟨a1, d2⟩ := nn4
  have ta1 : T a1 = 14 := hW0.rsN ta0 rfl d2
  obtain ⟨v3, c4⟩ : ∃ v, I0 a0 13 = v := ⟨_, rfl⟩
  have p5 := pre0
  rw [c4] at p5
  obtain ⟨v6, c7⟩ : ∃ v, I0 a0 8 = v := ⟨_, rfl⟩
  have b8 := iv15_8 hS0.1 ta0 c7
  have p9 := pre1
  rw [c7] at p9
  obtain ⟨v10, c11⟩ : ∃ v, I0 a0 7 = v := ⟨_, rfl⟩
  have b12 := iv15_7 hW0 ta0 c11
  have p13 := pre2
  rw [c11] at p13
  obtain ⟨v14, c15⟩ : ∃ v, I0 a1 0 = v := ⟨_, rfl⟩
  have b16 := iv14_0 hS0.1 ta1 c15
  have p17 := pre3 _ d2
  rw [c15] at p17
  obtain ⟨v18, c19⟩ : ∃ v, I0 a1 1 = v := ⟨_, rfl⟩
  have b20 := iv14_1 hS0.1 ta1 c19
  have p21 := pre4 _ d2
  rw [c19] at p21
  obtain ⟨v22, c23⟩ : ∃ v, I0 a1 2 = v := ⟨_, rfl⟩
  have b24 := iv14_2 hS0.1 ta1 c23
  have p25 := pre5 _ d2
  rw [c23] at p25
  obtain ⟨v26, c27⟩ : ∃ v, I0 a1 3 = v := ⟨_, rfl⟩
  have b28 := iv14_3 hS0.1 ta1 c27
  have p29 := pre6 _ d2
  rw [c27] at p29
  obtain ⟨v30, c31⟩ : ∃ v, I0 a1 4 = v := ⟨_, rfl⟩
  have b32 := iv14_4 hS0.1 ta1 c31
  have p33 := pre7 _ d2
  rw [c31] at p33
  obtain ⟨v34, c35⟩ : ∃ v, I0 a1 5 = v := ⟨_, rfl⟩
  have b36 := iv14_5 hS0.1 ta1 c35
  have p37 := pre8 _ d2
  rw [c35] at p37
  obtain ⟨v38, c39⟩ : ∃ v, I0 a1 6 = v := ⟨_, rfl⟩
  have b40 := iv14_6 hS0.1 ta1 c39
  have p41 := pre9 _ d2
  rw [c39] at p41
  obtain ⟨v42, c43⟩ : ∃ v, I0 a1 9 = v := ⟨_, rfl⟩
  have b44 := iv14_9 hS0.1 ta1 c43
  have p45 := pre10 _ d2
  rw [c43] at p45
  obtain ⟨v46, c47⟩ : ∃ v, I0 a0 6 = v := ⟨_, rfl⟩
  have b48 := iv15_6 hW0 ta0 c47
  have hM0 := hN _ d2
  have lsn := lsF_ge gB 901 0 Q00
  have q00_0 : Q00 0 = 0 := rfl
  have q00_1 : Q00 1 = 0 := rfl
  have q00_2 : Q00 2 = 0 := rfl
  have q00_3 : Q00 3 = 0 := rfl
  have q00_4 : Q00 4 = 0 := rfl
  have q00_5 : Q00 5 = 0 := rfl
  have q00_6 : Q00 6 = 0 := rfl
  have q00_7 : Q00 7 = 0 := rfl
  have q00_8 : Q00 8 = 0 := rfl
  refine tr_aload_n dX12_alp_54 hl0 ?_
  refine q_iconst dX12_alp_55 (by decide) ?_
  intro v49 h50
  refine q_putI dX12_alp_56 fl12_99 (kR15 hS0.1 ta0) (Or.inl rfl) hS0 ta0 (by show (0 : Int) ≤ v49.toInt ∧ v49.toInt ≤ (5 : Int); omega) rfl (by decide +kernel) ?_
  intro I51 hS52 e53 f54
  have c55 : I51 a0 13 = v3 := (f54 _ _ (fun q => absurd q.2 (by decide))).trans c4
  have c56 : I51 a0 8 = v6 := (f54 _ _ (fun q => absurd q.2 (by decide))).trans c7
  have c57 : I51 a1 0 = v14 := (f54 _ _ (fun q => absurd q.2 (by decide))).trans c15
  have c58 : I51 a1 1 = v18 := (f54 _ _ (fun q => absurd q.2 (by decide))).trans c19
  have c59 : I51 a1 2 = v22 := (f54 _ _ (fun q => absurd q.2 (by decide))).trans c23
  have c60 : I51 a1 3 = v26 := (f54 _ _ (fun q => absurd q.2 (by decide))).trans c27
  have c61 : I51 a1 4 = v30 := (f54 _ _ (fun q => absurd q.2 (by decide))).trans c31
  have c62 : I51 a1 5 = v34 := (f54 _ _ (fun q => absurd q.2 (by decide))).trans c35
  have c63 : I51 a1 6 = v38 := (f54 _ _ (fun q => absurd q.2 (by decide))).trans c39
  have c64 : I51 a1 9 = v42 := (f54 _ _ (fun q => by have z := ta1; rw [q.1, ta0] at z; exact absurd z (by decide))).trans c43
  have hM65 : NmM I51 R0 L0 a1 Q00 := NmM.kp1 hM0 f54 ta0 rfl rfl hS0.1 ta1
  refine tr_aload_n dX12_alp_59 hl0 ?_
  refine q_callVv hE (M' := mX12_goesOn) (as := []) dX12_alp_60 lk12_142 inX12_goesOn seX12_goesOn myX12_goesOn (by decide) ⟨by decide, by decide⟩ rfl (kR15 hS52.1 ta0) (Nat.le_of_ble_eq_true rfl) rfl rfl (by decide) (by decide) (fk_X12_goesOn hS52.1 (gB) (0) ta0 (TxA.kp hT hS52 ta0 rfl rfl rfl (by decide +kernel) (by decide +kernel)) (by (try rw [c56]); first | done | omega) (by (try rw [((hS52.cell ta0 (by decide +kernel)).trans c11)]); first | done | omega) (by (try rw [e53]); first | done | omega)) ?_
  rintro cn' K' N' I66 R67 L68 ⟨rfl, rfl, rfl, rfl, g69, gl70, p72, p73, p74, p75, p76, p77, p78, -⟩
  have hM79 : NmM I66 R0 L0 a1 Q00 := NmM.kpS hM65 g69 hS52.1 ta1 (by decide +kernel) (by decide +kernel)
  have hS80 := hS52.tr g69 (by decide +kernel) (by decide +kernel)
  have c81 : I66 a0 13 = v3 := (g69.cell ta0 (by decide +kernel)).trans c55
  have c82 : I66 a1 0 = v14 := (g69.cell ta1 (by decide +kernel)).trans c57
  have c83 : I66 a1 1 = v18 := (g69.cell ta1 (by decide +kernel)).trans c58
  have c84 : I66 a1 2 = v22 := (g69.cell ta1 (by decide +kernel)).trans c59
  have c85 : I66 a1 3 = v26 := (g69.cell ta1 (by decide +kernel)).trans c60
  have c86 : I66 a1 4 = v30 := (g69.cell ta1 (by decide +kernel)).trans c61
  have c87 : I66 a1 5 = v34 := (g69.cell ta1 (by decide +kernel)).trans c62
  have c88 : I66 a1 6 = v38 := (g69.cell ta1 (by decide +kernel)).trans c63
  have c89 : I66 a1 9 = v42 := (g69.cell ta1 (by decide +kernel)).trans c64
  have hL90 := hL0.tr gl70 (by decide +kernel)
  have hM91 : NmM I66 R0 L68 a1 Q00 := NmM.kpL hM79 gl70 hS80.1 ta1 (by decide +kernel)
  obtain ⟨v92, c93⟩ : ∃ v, I66 a0 9 = v := ⟨_, rfl⟩
  have b94 := iv15_9 hS80.1 ta0 c93
  rw [c93] at p72
  rw [c93] at p73
  obtain ⟨v95, c96⟩ : ∃ v, I66 a0 10 = v := ⟨_, rfl⟩
  have b97 := iv15_10 hS80.1 ta0 c96
  rw [c96] at p74
  obtain ⟨v98, c99⟩ : ∃ v, I66 a0 11 = v := ⟨_, rfl⟩
  rw [c99] at p75
  obtain ⟨y100, c101⟩ : ∃ v, L68 a0 15 = v := ⟨_, rfl⟩
  rw [c101] at p76
  obtain ⟨v102, c103⟩ : ∃ v, I66 a0 12 = v := ⟨_, rfl⟩
  rw [c103] at p77
  obtain ⟨v104, c105⟩ : ∃ v, I66 a0 8 = v := ⟨_, rfl⟩
  have b106 := iv15_8 hS80.1 ta0 c105
  rw [c105] at p78
  refine tr_aload_n dX12_alp_63 hl0 ?_
  refine q_callVv hE (M' := mX12_readAll) (as := []) dX12_alp_64 lk12_382 inX12_readAll seX12_readAll myX12_readAll (by decide) ⟨by decide, by decide⟩ rfl (kR15 hS80.1 ta0) (Nat.le_of_ble_eq_true rfl) rfl rfl (by decide) (by decide) (fk_X12_readAll hS80.1 (gB) ta0 (TxA.kp hT hS80 ta0 rfl rfl rfl (by decide +kernel) (by decide +kernel)) (fun b hb => (Option.some.inj (d2.symm.trans hb)) ▸ hM91) (by (try rw [c93]); first | done | omega) (by (try rw [c93]); first | done | omega) (by (try rw [c96]); first | done | omega) (by (try rw [c99]); first | done | omega) (by (try rw [c101]); first | done | assumption) (by (try rw [c103]); first | done | assumption) (by (try rw [c105]); first | done | assumption) (by (try rw [((hS80.cell ta0 (by decide +kernel)).trans c11)]); first | done | omega) (fun q0 z0 => by obtain rfl := Option.some.inj ((d2).symm.trans z0); (try rw [c82]); first | done | omega) (fun q0 z0 => by obtain rfl := Option.some.inj ((d2).symm.trans z0); (try rw [c83]); first | done | omega) (fun q0 z0 => by obtain rfl := Option.some.inj ((d2).symm.trans z0); (try rw [c84]); first | done | omega) (fun q0 z0 => by obtain rfl := Option.some.inj ((d2).symm.trans z0); (try rw [c85]); first | done | omega) (fun q0 z0 => by obtain rfl := Option.some.inj ((d2).symm.trans z0); (try rw [c86]); first | done | omega) (fun q0 z0 => by obtain rfl := Option.some.inj ((d2).symm.trans z0); (try rw [c87]); first | done | omega) (fun q0 z0 => by obtain rfl := Option.some.inj ((d2).symm.trans z0); (try rw [c88]); first | done | omega) (fun q0 z0 => by obtain rfl := Option.some.inj ((d2).symm.trans z0); (try rw [c89]); first | done | omega) ⟨_, d2⟩) ?_
  rintro cn' K' N' I107 R108 L109 ⟨rfl, rfl, rfl, rfl, g110, dj113, -⟩
  have hS114 := hS80.tr g110 (by decide +kernel) (by decide +kernel)
  rcases dj113 with ⟨p115, p116, p117, p118, p119, gl120, -⟩ | ⟨p121, p122, p123, p124, -⟩
  · skip
    have hL125 := hL90.tr gl120 (by decide +kernel)
    obtain ⟨v126, c127⟩ : ∃ v, I107 a0 13 = v := ⟨_, rfl⟩
    rw [c127] at p116
    rw [c81] at p116
    obtain ⟨v128, c129⟩ : ∃ v, I107 a1 3 = v := ⟨_, rfl⟩
    have b130 := iv14_3 hS114.1 ta1 c129
    have p131 := p117 _ d2
    clear p117
    rw [c129] at p131
    obtain ⟨v132, c133⟩ : ∃ v, I107 a0 9 = v := ⟨_, rfl⟩
    have b134 := iv15_9 hS114.1 ta0 c133
    rw [c133] at p118
    obtain ⟨v135, c136⟩ : ∃ v, I107 a1 0 = v := ⟨_, rfl⟩
    have b137 := iv14_0 hS114.1 ta1 c136
    have p138 := p119 _ d2
    clear p119
    rw [c136] at p138
    refine tr_aload_n dX12_alp_67 hl0 ?_
    refine q_getI dX12_alp_68 fl12_128 (kR15 hS114.1 ta0) c127 ?_
    refine q_if_le 89 dX12_alp_71 (by decide) (fun h139 => ?_) (fun h139 => ?_)
    · skip
      refine tr_aload_n dX12_alp_89 hl0 ?_
      refine tr_aload_n dX12_alp_90 hl0 ?_
      refine tr_getR dX12_alp_91 fl12_188 (kR15 hS114.1 ta0) d2 ?_
      refine q_putRA dX12_alp_94 fl12_385 (kR15 hS114.1 ta0) (Or.inl rfl) hS114 ta0 (by decide +kernel) (hS114.1.putA ta0 ta1 (by rw [c136]; omega)) ?_
      intro R140 hS141 e142 f143
      refine q_iconst dX12_alp_97 (by decide) ?_
      intro v144 h145
      refine tr_istore_n dX12_alp_98 (by decide) (by decide) ?_
      obtain ⟨v164, c165⟩ : ∃ v, I107 a0 2 = v := ⟨_, rfl⟩
      obtain ⟨v166, c167⟩ : ∃ v, I107 a0 1 = v := ⟨_, rfl⟩
      have lp172 : ∀ (fu : Nat) (ls : Nat → Option Value) (v146 : Int32) (I150 : cz_I) (L151 : cz_L) (v154 : Int32) (v156 : Int32) (v158 : Int32) (v160 : Int32) (v162 : Int32), ls 0 = some (.ref a0) → ls 1 = some (.int x1) → ls 2 = some (.int v146) → St T cn K N 0 wif_alpB wrf_alpB I0 R0 I150 R140 → LgS T wlf_alpB L0 L151 → I150 a0 13 = v154 → I150 a0 6 = v156 → I150 a0 2 = v158 → I150 a0 1 = v160 → I150 a1 3 = v162 → 0 ≤ v146.toInt → v154.toInt = 0 → v156.toInt = v46.toInt → v162.toInt = (lsC gB 901 0 Q00) → (-v146.toInt + 2147483647).toNat < fu → Tr X mX12_alp 99 ls [] cn K N I150 R140 L151 24 247 := by
        intro fu
        induction fu with
        | zero => intros; rename_i hz; exact absurd hz (Nat.not_lt_zero _)
        | succ fu ih172 =>
          intro ls v146 I150 L151 v154 v156 v158 v160 v162 hl147 hl148 hl149 hS152 hL153 c155 c157 c159 c161 c163 g168 g169 g170 g171 hm172
          have b174 := iv15_6 hS152.1 ta0 c157
          have b175 := iv14_3 hS152.1 ta1 c163
          refine tr_iload_n dX12_alp_99 hl149 ?_
          refine q_bipush dX12_alp_100 (by decide +kernel) ?_
          intro v176 h177
          refine q_icmp_ge 118 dX12_alp_102 (by decide) (fun h178 => ?_) (fun h178 => ?_)
          · skip
            refine tr_aload_n dX12_alp_118 hl147 ?_
            refine q_iconst dX12_alp_119 (by decide) ?_
            intro v179 h180
            refine q_putI dX12_alp_120 fl12_387 (kR15 hS152.1 ta0) (Or.inl rfl) hS152 ta0 (by show (0 : Int) ≤ v179.toInt ∧ v179.toInt ≤ (12 : Int); omega) rfl (by decide +kernel) ?_
            intro I181 hS182 e183 f184
            have c185 : I181 a0 13 = v154 := (f184 _ _ (fun q => absurd q.2 (by decide))).trans c155
            have c186 : I181 a0 6 = v156 := (f184 _ _ (fun q => absurd q.2 (by decide))).trans c157
            have c187 : I181 a0 2 = v158 := (f184 _ _ (fun q => absurd q.2 (by decide))).trans c159
            have c188 : I181 a0 1 = v160 := (f184 _ _ (fun q => absurd q.2 (by decide))).trans c161
            have c189 : I181 a1 3 = v162 := (f184 _ _ (fun q => absurd q.2 (by decide))).trans c163
            refine tr_aload_n dX12_alp_123 hl147 ?_
            refine q_iconst dX12_alp_124 (by decide) ?_
            intro v190 h191
            refine q_putI dX12_alp_125 fl12_390 (kR15 hS182.1 ta0) (Or.inl rfl) hS182 ta0 (by show (0 : Int) ≤ v190.toInt ∧ v190.toInt ≤ (3 : Int); omega) rfl (by decide +kernel) ?_
            intro I192 hS193 e194 f195
            have c196 : I192 a0 13 = v154 := (f195 _ _ (fun q => absurd q.2 (by decide))).trans c185
            have c197 : I192 a0 6 = v156 := (f195 _ _ (fun q => absurd q.2 (by decide))).trans c186
            have c198 : I192 a0 2 = v158 := (f195 _ _ (fun q => absurd q.2 (by decide))).trans c187
            have c199 : I192 a0 1 = v160 := (f195 _ _ (fun q => absurd q.2 (by decide))).trans c188
            have c200 : I192 a1 3 = v162 := (f195 _ _ (fun q => absurd q.2 (by decide))).trans c189
            have c201 : I192 a0 19 = v179 := (f195 _ _ (fun q => absurd q.2 (by decide))).trans e183
            refine tr_aload_n dX12_alp_128 hl147 ?_
            refine tr_aload_n dX12_alp_129 hl147 ?_
            refine tr_getR dX12_alp_130 fl12_385 (kR15 hS193.1 ta0) e142 ?_
            refine q_getI dX12_alp_133 fl12_224 (kR14 hS193.1 ta1) c200 ?_
            refine q_callVi hE (M' := mX12_good) (as := [_]) dX12_alp_136 lk12_81 inX12_good seX12_good myX12_good (by decide) ⟨by decide, by decide⟩ rfl (kR15 hS193.1 ta0) (Nat.le_of_ble_eq_true rfl) rfl rfl (by decide) (by decide) (fk_X12_good hS193.1  ta0) ?_
            rintro v207 cn' K' N' I202 R203 L204 ⟨rfl, rfl, rfl, rfl, rfl, g205, p208, p209, p210, -⟩
            have hS211 := hS193.tr g205 (by decide +kernel) (by decide +kernel)
            have c212 : I202 a0 13 = v154 := (g205.cell ta0 (by decide +kernel)).trans c196
            have c213 : I202 a0 6 = v156 := (g205.cell ta0 (by decide +kernel)).trans c197
            have c214 : I202 a1 3 = v162 := (g205.cell ta1 (by decide +kernel)).trans c200
            have c215 : I202 a0 19 = v179 := (g205.cell ta0 (by decide +kernel)).trans c201
            have c216 : I202 a0 20 = v190 := (g205.cell ta0 (by decide +kernel)).trans e194
            obtain ⟨v217, c218⟩ : ∃ v, I202 a0 1 = v := ⟨_, rfl⟩
            rw [c218] at p209
            obtain ⟨v219, c220⟩ : ∃ v, I202 a0 2 = v := ⟨_, rfl⟩
            rw [c220] at p210
            exact tr_iret hZ dX12_alp_139 rfl (by decide) (by decide) (hq _ _ _ _ ⟨hS211, (Or.inl ⟨(by first | done | omega), (by first | done | omega), (by (try rw [((hS211.cell ta0 (by decide +kernel)).trans c47)]); (try rw [c47]); first | done | omega), (by (try rw [c212]); first | done | omega), (by (try rw [c218]); first | done | omega), (by (try rw [c220]); first | done | omega), trivial⟩), trivial⟩)
          · skip
            refine tr_aload_n dX12_alp_105 hl147 ?_
            obtain ⟨a221, d222, ta221⟩ := rf15_16 hW0 ta0
            refine tr_getR dX12_alp_106 fl12_17 (kR15 hS152.1 ta0) ((hS152.rcell ta0 (by decide +kernel)).trans d222) ?_
            refine tr_iload_n dX12_alp_109 hl149 ?_
            refine q_iconst dX12_alp_110 (by decide) ?_
            intro v223 h224
            refine q_iast dX12_alp_111 (kR77 hS152.1 ta221) (ti_in (nR77 hS152.1 ta221) (by omega) (by omega)) hS152 ta221 (iok_w0 rfl (by omega)) rfl (by rfl) ?_
            intro I225 hS226 e228 f227
            have c229 : I225 a0 13 = v154 := (f227 _ _ (fun q => by have z := ta0; rw [q.1, ta221] at z; exact absurd z (by decide))).trans c155
            have c230 : I225 a0 6 = v156 := (f227 _ _ (fun q => by have z := ta0; rw [q.1, ta221] at z; exact absurd z (by decide))).trans c157
            have c231 : I225 a0 2 = v158 := (f227 _ _ (fun q => by have z := ta0; rw [q.1, ta221] at z; exact absurd z (by decide))).trans c159
            have c232 : I225 a0 1 = v160 := (f227 _ _ (fun q => by have z := ta0; rw [q.1, ta221] at z; exact absurd z (by decide))).trans c161
            have c233 : I225 a1 3 = v162 := (f227 _ _ (fun q => by have z := ta1; rw [q.1, ta221] at z; exact absurd z (by decide))).trans c163
            refine q_iincE dX12_alp_112 hl149 (by decide) (by decide) (by intros; omega) ?_
            intro v234 h235
            refine tr_goto 99 dX12_alp_115 (by decide) ?_
            exact ih172 _ v234 I225 L151 v154 v46 v158 v160 v162 hl147 hl148 rfl hS226 hL153 c229 ((hS226.cell ta0 (by decide +kernel)).trans c47) c231 c232 c233 (by omega) (by omega) (by omega) (by omega) (by omega)
      exact lp172 _ _ v144 I107 L109 v126 v46 v164 v166 v128 hl0 hl1 rfl hS141 hL125 c127 ((hS141.cell ta0 (by decide +kernel)).trans c47) c165 c167 c129 (by omega) (by omega) (by omega) (by omega) (Nat.lt_succ_self _)
    · skip
      exfalso; omega
  · skip
    obtain ⟨v236, c237⟩ : ∃ v, I107 a0 9 = v := ⟨_, rfl⟩
    have b238 := iv15_9 hS114.1 ta0 c237
    rw [c237] at p122
    obtain ⟨v239, c240⟩ : ∃ v, I107 a0 13 = v := ⟨_, rfl⟩
    rw [c240] at p123
    obtain ⟨v241, c242⟩ : ∃ v, I107 a0 14 = v := ⟨_, rfl⟩
    rw [c242] at p124
    refine tr_aload_n dX12_alp_67 hl0 ?_
    refine q_getI dX12_alp_68 fl12_128 (kR15 hS114.1 ta0) c240 ?_
    refine q_if_le 89 dX12_alp_71 (by decide) (fun h243 => ?_) (fun h243 => ?_)
    · skip
      exfalso; omega
    · skip
      refine tr_aload_n dX12_alp_74 hl0 ?_
      refine q_iconst dX12_alp_75 (by decide) ?_
      intro v244 h245
      refine q_putI dX12_alp_76 fl12_73 (kR15 hS114.1 ta0) (Or.inl rfl) hS114 ta0 (iokF rfl) rfl (by decide +kernel) ?_
      intro I246 hS247 e248 f249
      have c250 : I246 a0 9 = v236 := (f249 _ _ (fun q => absurd q.2 (by decide))).trans c237
      have c251 : I246 a0 13 = v239 := (f249 _ _ (fun q => absurd q.2 (by decide))).trans c240
      have c252 : I246 a0 14 = v241 := (f249 _ _ (fun q => absurd q.2 (by decide))).trans c242
      refine tr_aload_n dX12_alp_79 hl0 ?_
      refine tr_aload_n dX12_alp_80 hl0 ?_
      refine q_getI dX12_alp_81 fl12_131 (kR15 hS247.1 ta0) c252 ?_
      refine q_putI dX12_alp_84 fl12_9 (kR15 hS247.1 ta0) (Or.inl rfl) hS247 ta0 (iokF rfl) rfl (by decide +kernel) ?_
      intro I253 hS254 e255 f256
      have c257 : I253 a0 9 = v236 := (f256 _ _ (fun q => absurd q.2 (by decide))).trans c250
      have c258 : I253 a0 13 = v239 := (f256 _ _ (fun q => absurd q.2 (by decide))).trans c251
      have c259 : I253 a0 14 = v241 := (f256 _ _ (fun q => absurd q.2 (by decide))).trans c252
      have c260 : I253 a0 1 = v244 := (f256 _ _ (fun q => absurd q.2 (by decide))).trans e248
      refine q_iconst dX12_alp_87 (by decide) ?_
      intro v261 h262
      exact tr_iret hZ dX12_alp_88 rfl (by decide) (by decide) (hq _ _ _ _ ⟨hS254, (Or.inr (⟨(by first | done | omega), (by first | done | omega), (by (try rw [((hS254.cell ta0 (by decide +kernel)).trans c47)]); (try rw [c47]); first | done | omega), (by (try rw [c258]); first | done | omega), (by (try rw [c260]); first | done | omega), (by (try rw [e255]); first | done | omega), trivial⟩)), trivial⟩)
