def wik_X12_refused : List Nat := [961, 962]
def wrk_X12_refused : List Nat := []
set_option maxHeartbeats 4000000 in
theorem fk_X12_refused {l : Launch} {T : Nat → Nat} {cn : Nat} {K N : Nat → Nat} {I0 : cz_I} {R0 : cz_R} {L0 : cz_L} {d : Int} (hW0 : Wf T cn K N I0 R0 d)  {a0 : Nat} (ta0 : T a0 = 15) {x1 : Int32} : ConE l mX12_refused [.ref a0, .int x1] cn K N I0 R0 L0 (ca_i (fun v cn' K' N' I' R' L' => cn = cn' ∧ K = K' ∧ N = N' ∧ R0 = R' ∧ L0 = L' ∧ St T cn K N d wik_X12_refused wrk_X12_refused I0 R0 I' R0 ∧ (v.toInt = -1) ∧ ((I' a0 1).toInt = x1.toInt) ∧ ((I' a0 2).toInt = -1) ∧ True)) := by
  refine ConE.of (by decide +kernel) rfl (Nat.le_of_ble_eq_true rfl) rfl (fun X hX hZ hE => ?_)
  subst hX
  have hS0 : St T cn K N d wik_X12_refused wrk_X12_refused I0 R0 I0 R0 := St.rf0 hW0
  refine tr_aload_n dX12_refused_0 rfl ?_
  refine tr_iload_n dX12_refused_1 rfl ?_
  refine q_putI dX12_refused_2 fl12_73 (kR15 hS0.1 ta0) (Or.inl rfl) hS0 ta0 (iokF rfl) rfl (by decide +kernel) ?_
  intro I1 hS2 e3 f4
  refine tr_aload_n dX12_refused_5 rfl ?_
  refine q_iconst dX12_refused_6 (by decide) ?_
  intro v5 h6
  refine q_putI dX12_refused_7 fl12_9 (kR15 hS2.1 ta0) (Or.inl rfl) hS2 ta0 (iokF rfl) rfl (by decide +kernel) ?_
  intro I7 hS8 e9 f10
  have c11 : I7 a0 1 = x1 := (f10 _ _ (fun q => absurd q.2 (by decide))).trans e3
  refine q_iconst dX12_refused_10 (by decide) ?_
  intro v12 h13
  exact tr_iret hZ dX12_refused_11 rfl (by decide) (by decide) ⟨v12, rfl, rfl, rfl, rfl, rfl, rfl, hS8, (by first | done | with_reducible assumption | omega), (by (try rw [c11]); first | done | with_reducible assumption | omega), (by (try rw [e9]); first | done | with_reducible assumption | omega), trivial⟩
def wif_alpA : List Nat := [960, 961, 962, 966, 967, 968, 973]
def wrf_alpA : List Nat := []
def wlf_alpA : List Nat := []
set_option maxHeartbeats 4000000 in
theorem sf_alpA {X : cz_X} (hE : cz_env X) {T : Nat → Nat} {cn : Nat} {K N : Nat → Nat} {I0 : cz_I} {R0 : cz_R} {L0 : cz_L} {Q : cz_Q} (hZ : cz_Z X mX12_alp Q) {d : Int} (hW0 : Wf T cn K N I0 R0 d)  {a0 : Nat} (ta0 : T a0 = 15) {x1 : Int32} {ls : Nat → Option Value} (hl0 : ls 0 = some (.ref a0)) (hl1 : ls 1 = some (.int x1)) (hq : ∀ (v : Int32) (I' : cz_I) (R' : cz_R) (L' : cz_L), St T cn K N d wif_alpA wrf_alpA I0 R0 I' R' ∧ ((((x1.toInt < 0 ∨ x1.toInt > (I0 a0 6).toInt)) ∧ (v.toInt = -1) ∧ ((I' a0 6).toInt = (I0 a0 6).toInt) ∧ ((I' a0 13).toInt = (I0 a0 13).toInt) ∧ ((I' a0 1).toInt = 2) ∧ ((I' a0 2).toInt = -1) ∧ True)) ∧ True → Q (some (.int v)) cn K N I' R' L') (hk : ∀ (ls' : Nat → Option Value) (I' : cz_I) (R' : cz_R) (L' : cz_L), ls' 0 = ls 0 → ls' 1 = ls 1 → St T cn K N d wif_alpA wrf_alpA I0 R0 I' R' ∧ ((I' a0 6).toInt = 0) ∧ ((I' a0 13).toInt = 0) ∧ ((I' a0 7).toInt = x1.toInt) ∧ ((I' a0 8).toInt = 0) ∧ ((0 ≤ x1.toInt ∧ x1.toInt ≤ (I0 a0 6).toInt)) ∧ True → Tr X mX12_alp 43 ls' [] cn K N I' R' L' 0 0) : Tr X mX12_alp 0 ls [] cn K N I0 R0 L0 0 0 := by
  have hS0 : St T cn K N d wif_alpA wrf_alpA I0 R0 I0 R0 := St.rf0 hW0
  have hL0 : LgS T wlf_alpA L0 L0 := LgS.rf0
  obtain ⟨v1, c2⟩ : ∃ v, I0 a0 6 = v := ⟨_, rfl⟩
  have b3 := iv15_6 hS0.1 ta0 c2
  obtain ⟨v4, c5⟩ : ∃ v, I0 a0 13 = v := ⟨_, rfl⟩
  refine tr_aload_n dX12_alp_0 hl0 ?_
  refine q_iconst dX12_alp_1 (by decide) ?_
  intro v6 h7
  refine q_putI dX12_alp_2 fl12_70 (kR15 hS0.1 ta0) (Or.inl rfl) hS0 ta0 (iokF rfl) rfl (by decide +kernel) ?_
  intro I8 hS9 e10 f11
  have c12 : I8 a0 6 = v1 := (f11 _ _ (fun q => absurd q.2 (by decide))).trans c2
  have c13 : I8 a0 13 = v4 := (f11 _ _ (fun q => absurd q.2 (by decide))).trans c5
  refine tr_iload_n dX12_alp_5 hl1 ?_
  refine q_if_lt 17 dX12_alp_6 (by decide) (fun h14 => ?_) (fun h14 => ?_)
  · skip
    refine tr_aload_n dX12_alp_17 hl0 ?_
    refine q_iconst dX12_alp_18 (by decide) ?_
    intro v15 h16
    refine q_callVi hE (M' := mX12_refused) (as := [_]) dX12_alp_19 lk12_76 inX12_refused seX12_refused myX12_refused (by decide) ⟨by decide, by decide⟩ rfl (kR15 hS9.1 ta0) (Nat.le_of_ble_eq_true rfl) rfl rfl (by decide) (by decide) (fk_X12_refused hS9.1  ta0) ?_
    rintro v22 cn' K' N' I17 R18 L19 ⟨rfl, rfl, rfl, rfl, rfl, g20, p23, p24, p25, -⟩
    have hS26 := hS9.tr g20 (by decide +kernel) (by decide +kernel)
    have c27 : I17 a0 6 = v1 := (g20.cell ta0 (by decide +kernel)).trans c12
    have c28 : I17 a0 13 = v4 := (g20.cell ta0 (by decide +kernel)).trans c13
    have c29 : I17 a0 0 = v6 := (g20.cell ta0 (by decide +kernel)).trans e10
    obtain ⟨v30, c31⟩ : ∃ v, I17 a0 1 = v := ⟨_, rfl⟩
    rw [c31] at p24
    obtain ⟨v32, c33⟩ : ∃ v, I17 a0 2 = v := ⟨_, rfl⟩
    rw [c33] at p25
    exact tr_iret hZ dX12_alp_22 rfl (by decide) (by decide) (hq _ _ _ _ ⟨hS26, (⟨(by (try rw [c2]); first | done | with_reducible assumption | exact om_99c447d6 h14), (by first | done | with_reducible assumption | omega), (by (try rw [c27]); (try rw [c2]); first | done | with_reducible assumption | omega), (by (try rw [c28]); (try rw [c5]); first | done | with_reducible assumption | omega), (by (try rw [c31]); first | done | with_reducible assumption | exact om_85972af0 h16 p24), (by (try rw [c33]); first | done | with_reducible assumption | omega), trivial⟩), trivial⟩)
  · skip
    refine tr_iload_n dX12_alp_9 hl1 ?_
    refine tr_aload_n dX12_alp_10 hl0 ?_
    refine q_getI dX12_alp_11 fl12_378 (kR15 hS9.1 ta0) c12 ?_
    refine q_icmp_le 23 dX12_alp_14 (by decide) (fun h34 => ?_) (fun h34 => ?_)
    · skip
      refine tr_aload_n dX12_alp_23 hl0 ?_
      refine tr_iload_n dX12_alp_24 hl1 ?_
      refine q_putI dX12_alp_25 fl12_84 (kR15 hS9.1 ta0) (Or.inl rfl) hS9 ta0 (by show (0 : Int) ≤ x1.toInt ∧ x1.toInt ≤ (900 : Int); exact om_8e2484d1 b3.2 b3.1 h14 h34) rfl (by decide +kernel) ?_
      intro I35 hS36 e37 f38
      have c39 : I35 a0 6 = v1 := (f38 _ _ (fun q => absurd q.2 (by decide))).trans c12
      have c40 : I35 a0 13 = v4 := (f38 _ _ (fun q => absurd q.2 (by decide))).trans c13
      have c41 : I35 a0 0 = v6 := (f38 _ _ (fun q => absurd q.2 (by decide))).trans e10
      refine tr_aload_n dX12_alp_28 hl0 ?_
      refine q_iconst dX12_alp_29 (by decide) ?_
      intro v42 h43
      refine q_putI dX12_alp_30 fl12_378 (kR15 hS36.1 ta0) (Or.inl rfl) hS36 ta0 (by show (0 : Int) ≤ v42.toInt ∧ v42.toInt ≤ (900 : Int); exact om_d84473bb h43) rfl (by decide +kernel) ?_
      intro I44 hS45 e46 f47
      have c48 : I44 a0 13 = v4 := (f47 _ _ (fun q => absurd q.2 (by decide))).trans c40
      have c49 : I44 a0 0 = v6 := (f47 _ _ (fun q => absurd q.2 (by decide))).trans c41
      have c50 : I44 a0 7 = x1 := (f47 _ _ (fun q => absurd q.2 (by decide))).trans e37
      refine tr_aload_n dX12_alp_33 hl0 ?_
      refine q_iconst dX12_alp_34 (by decide) ?_
      intro v51 h52
      refine q_putI dX12_alp_35 fl12_102 (kR15 hS45.1 ta0) (Or.inl rfl) hS45 ta0 (by show (0 : Int) ≤ v51.toInt ∧ v51.toInt ≤ (900 : Int); exact om_d84473bb h52) rfl (by decide +kernel) ?_
      intro I53 hS54 e55 f56
      have c57 : I53 a0 13 = v4 := (f56 _ _ (fun q => absurd q.2 (by decide))).trans c48
      have c58 : I53 a0 0 = v6 := (f56 _ _ (fun q => absurd q.2 (by decide))).trans c49
      have c59 : I53 a0 7 = x1 := (f56 _ _ (fun q => absurd q.2 (by decide))).trans c50
      have c60 : I53 a0 6 = v42 := (f56 _ _ (fun q => absurd q.2 (by decide))).trans e46
      refine tr_aload_n dX12_alp_38 hl0 ?_
      refine q_iconst dX12_alp_39 (by decide) ?_
      intro v61 h62
      refine q_putI dX12_alp_40 fl12_128 (kR15 hS54.1 ta0) (Or.inl rfl) hS54 ta0 (iokF rfl) rfl (by decide +kernel) ?_
      intro I63 hS64 e65 f66
      have c67 : I63 a0 0 = v6 := (f66 _ _ (fun q => absurd q.2 (by decide))).trans c58
      have c68 : I63 a0 7 = x1 := (f66 _ _ (fun q => absurd q.2 (by decide))).trans c59
      have c69 : I63 a0 6 = v42 := (f66 _ _ (fun q => absurd q.2 (by decide))).trans c60
      have c70 : I63 a0 8 = v51 := (f66 _ _ (fun q => absurd q.2 (by decide))).trans e55
      exact hk _ _ _ _ (rfl) (rfl) ⟨hS64, (by (try rw [c69]); (try exact om_29f55913 h43)), (by (try rw [e65]); (try exact om_29f55913 h62)), (by (try rw [c68]); (try omega)), (by (try rw [c70]); (try exact om_29f55913 h52)), (by (try rw [c2]); (try exact om_a28333e1 h14 h34)), trivial⟩
    · skip
      refine tr_aload_n dX12_alp_17 hl0 ?_
      refine q_iconst dX12_alp_18 (by decide) ?_
      intro v71 h72
      refine q_callVi hE (M' := mX12_refused) (as := [_]) dX12_alp_19 lk12_76 inX12_refused seX12_refused myX12_refused (by decide) ⟨by decide, by decide⟩ rfl (kR15 hS9.1 ta0) (Nat.le_of_ble_eq_true rfl) rfl rfl (by decide) (by decide) (fk_X12_refused hS9.1  ta0) ?_
      rintro v78 cn' K' N' I73 R74 L75 ⟨rfl, rfl, rfl, rfl, rfl, g76, p79, p80, p81, -⟩
      have hS82 := hS9.tr g76 (by decide +kernel) (by decide +kernel)
      have c83 : I73 a0 6 = v1 := (g76.cell ta0 (by decide +kernel)).trans c12
      have c84 : I73 a0 13 = v4 := (g76.cell ta0 (by decide +kernel)).trans c13
      have c85 : I73 a0 0 = v6 := (g76.cell ta0 (by decide +kernel)).trans e10
      obtain ⟨v86, c87⟩ : ∃ v, I73 a0 1 = v := ⟨_, rfl⟩
      rw [c87] at p80
      obtain ⟨v88, c89⟩ : ∃ v, I73 a0 2 = v := ⟨_, rfl⟩
      rw [c89] at p81
      exact tr_iret hZ dX12_alp_22 rfl (by decide) (by decide) (hq _ _ _ _ ⟨hS82, (⟨(by (try rw [c2]); first | done | with_reducible assumption | exact om_9e558c0d h34), (by first | done | with_reducible assumption | omega), (by (try rw [c83]); (try rw [c2]); first | done | with_reducible assumption | omega), (by (try rw [c84]); (try rw [c5]); first | done | with_reducible assumption | omega), (by (try rw [c87]); first | done | with_reducible assumption | exact om_85972af0 h72 p80), (by (try rw [c89]); first | done | with_reducible assumption | omega), trivial⟩), trivial⟩)
def wik_X12_good : List Nat := [961, 962]
def wrk_X12_good : List Nat := []
set_option maxHeartbeats 4000000 in
theorem fk_X12_good {l : Launch} {T : Nat → Nat} {cn : Nat} {K N : Nat → Nat} {I0 : cz_I} {R0 : cz_R} {L0 : cz_L} {d : Int} (hW0 : Wf T cn K N I0 R0 d)  {a0 : Nat} (ta0 : T a0 = 15) {x1 : Int32} : ConE l mX12_good [.ref a0, .int x1] cn K N I0 R0 L0 (ca_i (fun v cn' K' N' I' R' L' => cn = cn' ∧ K = K' ∧ N = N' ∧ R0 = R' ∧ L0 = L' ∧ St T cn K N d wik_X12_good wrk_X12_good I0 R0 I' R0 ∧ (v.toInt = x1.toInt) ∧ ((I' a0 1).toInt = 0) ∧ ((I' a0 2).toInt = -1) ∧ True)) := by
  refine ConE.of (by decide +kernel) rfl (Nat.le_of_ble_eq_true rfl) rfl (fun X hX hZ hE => ?_)
  subst hX
  have hS0 : St T cn K N d wik_X12_good wrk_X12_good I0 R0 I0 R0 := St.rf0 hW0
  refine tr_aload_n dX12_good_0 rfl ?_
  refine q_iconst dX12_good_1 (by decide) ?_
  intro v1 h2
  refine q_putI dX12_good_2 fl12_73 (kR15 hS0.1 ta0) (Or.inl rfl) hS0 ta0 (iokF rfl) rfl (by decide +kernel) ?_
  intro I3 hS4 e5 f6
  refine tr_aload_n dX12_good_5 rfl ?_
  refine q_iconst dX12_good_6 (by decide) ?_
  intro v7 h8
  refine q_putI dX12_good_7 fl12_9 (kR15 hS4.1 ta0) (Or.inl rfl) hS4 ta0 (iokF rfl) rfl (by decide +kernel) ?_
  intro I9 hS10 e11 f12
  have c13 : I9 a0 1 = v1 := (f12 _ _ (fun q => absurd q.2 (by decide))).trans e5
  refine tr_iload_n dX12_good_10 rfl ?_
  exact tr_iret hZ dX12_good_11 rfl (by decide) (by decide) ⟨x1, rfl, rfl, rfl, rfl, rfl, rfl, hS10, (by first | done | with_reducible assumption | exact om_4ee7209a), (by (try rw [c13]); first | done | with_reducible assumption | omega), (by (try rw [e11]); first | done | with_reducible assumption | omega), trivial⟩
def wif_alpB : List Nat := [896, 897, 898, 899, 900, 901, 902, 903, 904, 905, 961, 962, 968, 969, 970, 971, 972, 973, 974, 979, 980, 3455, 3519, 3583, 3647, 3711, 3775, 3839, 3903, 3967, 4031, 4095, 4159, 4223, 4287, 4351, 4415, 4479, 4543, 4607, 4671, 4799, 4863, 4991]
def wrf_alpB : List Nat := [963]
def wlf_alpB : List Nat := [975, 4735]
set_option maxHeartbeats 4000000 in
theorem sf_alpB {X : cz_X} (hE : cz_env X) {T : Nat → Nat} {cn : Nat} {K N : Nat → Nat} {I0 : cz_I} {R0 : cz_R} {L0 : cz_L} {Q : cz_Q} (hZ : cz_Z X mX12_alp Q) (hW0 : Wf T cn K N I0 R0 0) (gB : cz_B) {a0 : Nat} (ta0 : T a0 = 15) {x1 : Int32} (hT : ∀ t, R0 a0 5 = some t → Tx I0 t gB) (hN : ∀ b, R0 a0 4 = some b → NmM I0 R0 L0 b Q00) (pre0 : (I0 a0 13).toInt = 0) (pre1 : (I0 a0 8).toInt = 0) (pre2 : (I0 a0 7).toInt = (gB.2)) (pre3 : ∀ b1, R0 a0 4 = some b1 → (I0 b1 0).toInt = 0) (pre4 : ∀ b1, R0 a0 4 = some b1 → (I0 b1 1).toInt = 0) (pre5 : ∀ b1, R0 a0 4 = some b1 → (I0 b1 2).toInt = 0) (pre6 : ∀ b1, R0 a0 4 = some b1 → (I0 b1 3).toInt = 0) (pre7 : ∀ b1, R0 a0 4 = some b1 → (I0 b1 4).toInt = 0) (pre8 : ∀ b1, R0 a0 4 = some b1 → (I0 b1 5).toInt = 0) (pre9 : ∀ b1, R0 a0 4 = some b1 → (I0 b1 6).toInt = 0) (pre10 : ∀ b1, R0 a0 4 = some b1 → (I0 b1 9).toInt = 0) (nn4 : ∃ b, R0 a0 4 = some b) {ls : Nat → Option Value} (hl0 : ls 0 = some (.ref a0)) (hl1 : ls 1 = some (.int x1)) (hq : ∀ (v : Int32) (I' : cz_I) (R' : cz_R) (L' : cz_L), St T cn K N 0 wif_alpB wrf_alpB I0 R0 I' R' ∧ (∀ dr, R0 a0 4 = some dr → FrO 14 dr T I0 I') ∧ ((((lsF gB 901 0 Q00) = 0) ∧ (v.toInt = (lsC gB 901 0 Q00)) ∧ ((I' a0 6).toInt = (I0 a0 6).toInt) ∧ ((I' a0 13).toInt = 0) ∧ ((I' a0 1).toInt = 0) ∧ ((I' a0 2).toInt = -1) ∧ (∀ b1, R' a0 3 = some b1 → (I' b1 0).toInt = (lsA0 gB 901 0 Q00)) ∧ (∀ b1, R' a0 3 = some b1 → (I' b1 5).toInt = (lsA5 gB 901 0 Q00)) ∧ ((I' a0 19).toInt = 0) ∧ ((I' a0 20).toInt = 0) ∧ (R' a0 3 = R0 a0 4) ∧ (∀ w, R0 a0 16 = some w → ∀ c : Nat, c < 15 → I' w c = 0) ∧ True) ∨ (((lsF gB 901 0 Q00) ≠ 0) ∧ (v.toInt = -1) ∧ ((I' a0 6).toInt = (I0 a0 6).toInt) ∧ ((I' a0 13).toInt = (lsF gB 901 0 Q00)) ∧ ((I' a0 1).toInt = 4) ∧ ((I' a0 2).toInt = (lsP gB 901 0 Q00)) ∧ (R' a0 3 = R0 a0 3) ∧ (SmM T I0 I' a0) ∧ True)) ∧ True → Q (some (.int v)) cn K N I' R' L') : Tr X mX12_alp 54 ls [] cn K N I0 R0 L0 24 247 := by
  have hS0 : St T cn K N 0 wif_alpB wrf_alpB I0 R0 I0 R0 := St.rf0 hW0
  have hL0 : LgS T wlf_alpB L0 L0 := LgS.rf0
  obtain ⟨a1, d2⟩ := nn4
  have ta1 : T a1 = 14 := hW0.rsN ta0 rfl d2
  obtain ⟨v3, c4⟩ : ∃ v, I0 a0 13 = v := ⟨_, rfl⟩
  have p5 := pre0
  rw [c4] at p5
  obtain ⟨v6, c7⟩ : ∃ v, I0 a0 8 = v := ⟨_, rfl⟩
  have b8 := iv15_8 hS0.1 ta0 c7
  have p9 := pre1
  rw [c7] at p9
  obtain ⟨v10, c11⟩ : ∃ v, I0 a0 7 = v := ⟨_, rfl⟩
  have b12 := iv15_7 hW0 ta0 c11
  have p13 := pre2
  rw [c11] at p13
  obtain ⟨v14, c15⟩ : ∃ v, I0 a1 0 = v := ⟨_, rfl⟩
  have b16 := iv14_0 hS0.1 ta1 c15
  have p17 := pre3 _ d2
  rw [c15] at p17
  obtain ⟨v18, c19⟩ : ∃ v, I0 a1 1 = v := ⟨_, rfl⟩
  have b20 := iv14_1 hS0.1 ta1 c19
  have p21 := pre4 _ d2
  rw [c19] at p21
  obtain ⟨v22, c23⟩ : ∃ v, I0 a1 2 = v := ⟨_, rfl⟩
  have b24 := iv14_2 hS0.1 ta1 c23
  have p25 := pre5 _ d2
  rw [c23] at p25
  obtain ⟨v26, c27⟩ : ∃ v, I0 a1 3 = v := ⟨_, rfl⟩
  have b28 := iv14_3 hS0.1 ta1 c27
  have p29 := pre6 _ d2
  rw [c27] at p29
  obtain ⟨v30, c31⟩ : ∃ v, I0 a1 4 = v := ⟨_, rfl⟩
  have b32 := iv14_4 hS0.1 ta1 c31
  have p33 := pre7 _ d2
  rw [c31] at p33
  obtain ⟨v34, c35⟩ : ∃ v, I0 a1 5 = v := ⟨_, rfl⟩
  have b36 := iv14_5 hS0.1 ta1 c35
  have p37 := pre8 _ d2
  rw [c35] at p37
  obtain ⟨v38, c39⟩ : ∃ v, I0 a1 6 = v := ⟨_, rfl⟩
  have b40 := iv14_6 hS0.1 ta1 c39
  have p41 := pre9 _ d2
  rw [c39] at p41
  obtain ⟨v42, c43⟩ : ∃ v, I0 a1 9 = v := ⟨_, rfl⟩
  have b44 := iv14_9 hS0.1 ta1 c43
  have p45 := pre10 _ d2
  rw [c43] at p45
  obtain ⟨v46, c47⟩ : ∃ v, I0 a0 6 = v := ⟨_, rfl⟩
  have b48 := iv15_6 hW0 ta0 c47
  have hM0 := hN _ d2
  have hO0 : FrO 14 a1 T I0 I0 := FrO.rf
  obtain ⟨v49, c50⟩ : ∃ v, I0 a0 19 = v := ⟨_, rfl⟩
  have b51 := iv15_19 hS0.1 ta0 c50
  obtain ⟨v52, c53⟩ : ∃ v, I0 a0 20 = v := ⟨_, rfl⟩
  have b54 := iv15_20 hS0.1 ta0 c53
  obtain ⟨a55, d56, ta55⟩ := rf15_16 hW0 ta0
  obtain ⟨a57, d58, ta57⟩ := rf15_17 hW0 ta0
  obtain ⟨a59, d60, ta59⟩ := rf15_18 hW0 ta0
  have lsn := lsF_ge gB 901 0 Q00
  have q00_0 : Q00 0 = 0 := rfl
  have q00_1 : Q00 1 = 0 := rfl
  have q00_2 : Q00 2 = 0 := rfl
  have q00_3 : Q00 3 = 0 := rfl
  have q00_4 : Q00 4 = 0 := rfl
  have q00_5 : Q00 5 = 0 := rfl
  have q00_6 : Q00 6 = 0 := rfl
  have q00_7 : Q00 7 = 0 := rfl
  have q00_8 : Q00 8 = 0 := rfl
  refine tr_aload_n dX12_alp_54 hl0 ?_
  refine q_iconst dX12_alp_55 (by decide) ?_
  intro v61 h62
  refine q_putI dX12_alp_56 fl12_99 (kR15 hS0.1 ta0) (Or.inl rfl) hS0 ta0 (by show (0 : Int) ≤ v61.toInt ∧ v61.toInt ≤ (5 : Int); exact om_3597b99b h62) rfl (by decide +kernel) ?_
  intro I63 hS64 e65 f66
  have c67 : I63 a0 13 = v3 := (f66 _ _ (fun q => absurd q.2 (by decide))).trans c4
  have c68 : I63 a0 8 = v6 := (f66 _ _ (fun q => absurd q.2 (by decide))).trans c7
  have c69 : I63 a1 0 = v14 := (f66 _ _ (fun q => absurd q.2 (by decide))).trans c15
  have c70 : I63 a1 1 = v18 := (f66 _ _ (fun q => absurd q.2 (by decide))).trans c19
  have c71 : I63 a1 2 = v22 := (f66 _ _ (fun q => absurd q.2 (by decide))).trans c23
  have c72 : I63 a1 3 = v26 := (f66 _ _ (fun q => absurd q.2 (by decide))).trans c27
  have c73 : I63 a1 4 = v30 := (f66 _ _ (fun q => absurd q.2 (by decide))).trans c31
  have c74 : I63 a1 5 = v34 := (f66 _ _ (fun q => absurd q.2 (by decide))).trans c35
  have c75 : I63 a1 6 = v38 := (f66 _ _ (fun q => absurd q.2 (by decide))).trans c39
  have c76 : I63 a1 9 = v42 := (f66 _ _ (fun q => by have z := ta1; rw [q.1, ta0] at z; exact absurd z (by decide))).trans c43
  have c77 : I63 a0 19 = v49 := (f66 _ _ (fun q => absurd q.2 (by decide))).trans c50
  have c78 : I63 a0 20 = v52 := (f66 _ _ (fun q => absurd q.2 (by decide))).trans c53
  have hO79 : FrO 14 a1 T I0 I63 := hO0.put f66 ta0 (Or.inl (by decide))
  have hM80 : NmM I63 R0 L0 a1 Q00 := NmM.kp1 hM0 f66 ta0 rfl rfl hS0.1 ta1
  refine tr_aload_n dX12_alp_59 hl0 ?_
  refine q_callVv hE (M' := mX12_goesOn) (as := []) dX12_alp_60 lk12_142 inX12_goesOn seX12_goesOn myX12_goesOn (by decide) ⟨by decide, by decide⟩ rfl (kR15 hS64.1 ta0) (Nat.le_of_ble_eq_true rfl) rfl rfl (by decide) (by decide) (fk_X12_goesOn hS64.1 (gB) (0) ta0 (TxA.kp hT hS64 ta0 rfl rfl rfl (by decide +kernel) (by decide +kernel)) (by (try rw [c68]); first | done | with_reducible assumption | omega) (by (try rw [((hS64.cell ta0 (by decide +kernel)).trans c11)]); first | done | with_reducible assumption | omega) (by (try rw [e65]); first | done | with_reducible assumption | exact om_a00e68e7 h62)) ?_
  rintro cn' K' N' I81 R82 L83 ⟨rfl, rfl, rfl, rfl, g84, gl85, p87, p88, p89, p90, p91, p92, p93, -⟩
  have hM94 : NmM I81 R0 L0 a1 Q00 := NmM.kpS hM80 g84 hS64.1 ta1 (by decide +kernel) (by decide +kernel)
  have hS95 := hS64.tr g84 (by decide +kernel) (by decide +kernel)
  have c96 : I81 a0 13 = v3 := (g84.cell ta0 (by decide +kernel)).trans c67
  have c97 : I81 a1 0 = v14 := (g84.cell ta1 (by decide +kernel)).trans c69
  have c98 : I81 a1 1 = v18 := (g84.cell ta1 (by decide +kernel)).trans c70
  have c99 : I81 a1 2 = v22 := (g84.cell ta1 (by decide +kernel)).trans c71
  have c100 : I81 a1 3 = v26 := (g84.cell ta1 (by decide +kernel)).trans c72
  have c101 : I81 a1 4 = v30 := (g84.cell ta1 (by decide +kernel)).trans c73
  have c102 : I81 a1 5 = v34 := (g84.cell ta1 (by decide +kernel)).trans c74
  have c103 : I81 a1 6 = v38 := (g84.cell ta1 (by decide +kernel)).trans c75
  have c104 : I81 a1 9 = v42 := (g84.cell ta1 (by decide +kernel)).trans c76
  have c105 : I81 a0 19 = v49 := (g84.cell ta0 (by decide +kernel)).trans c77
  have c106 : I81 a0 20 = v52 := (g84.cell ta0 (by decide +kernel)).trans c78
  have hO107 : FrO 14 a1 T I0 I81 := hO79.st g84 (by decide +kernel)
  have hL108 := hL0.tr gl85 (by decide +kernel)
  have hM109 : NmM I81 R0 L83 a1 Q00 := NmM.kpL hM94 gl85 hS95.1 ta1 (by decide +kernel)
  obtain ⟨v110, c111⟩ : ∃ v, I81 a0 9 = v := ⟨_, rfl⟩
  have b112 := iv15_9 hS95.1 ta0 c111
  rw [c111] at p87
  rw [c111] at p88
  obtain ⟨v113, c114⟩ : ∃ v, I81 a0 10 = v := ⟨_, rfl⟩
  have b115 := iv15_10 hS95.1 ta0 c114
  rw [c114] at p89
  obtain ⟨v116, c117⟩ : ∃ v, I81 a0 11 = v := ⟨_, rfl⟩
  rw [c117] at p90
  obtain ⟨y118, c119⟩ : ∃ v, L83 a0 15 = v := ⟨_, rfl⟩
  rw [c119] at p91
  obtain ⟨v120, c121⟩ : ∃ v, I81 a0 12 = v := ⟨_, rfl⟩
  rw [c121] at p92
  obtain ⟨v122, c123⟩ : ∃ v, I81 a0 8 = v := ⟨_, rfl⟩
  have b124 := iv15_8 hS95.1 ta0 c123
  rw [c123] at p93
  refine tr_aload_n dX12_alp_63 hl0 ?_
  refine q_callVv hE (M' := mX12_readAll) (as := []) dX12_alp_64 lk12_382 inX12_readAll seX12_readAll myX12_readAll (by decide) ⟨by decide, by decide⟩ rfl (kR15 hS95.1 ta0) (Nat.le_of_ble_eq_true rfl) rfl rfl (by decide) (by decide) (fk_X12_readAll hS95.1 (gB) ta0 (TxA.kp hT hS95 ta0 rfl rfl rfl (by decide +kernel) (by decide +kernel)) (fun b hb => (Option.some.inj (d2.symm.trans hb)) ▸ hM109) (by (try rw [c111]); first | done | with_reducible assumption | omega) (by (try rw [c111]); first | done | with_reducible assumption | omega) (by (try rw [c114]); first | done | with_reducible assumption | omega) (by (try rw [c117]); first | done | with_reducible assumption | omega) (by (try rw [c119]); first | done | assumption) (by (try rw [c121]); first | done | assumption) (by (try rw [c123]); first | done | assumption) (by (try rw [((hS95.cell ta0 (by decide +kernel)).trans c11)]); first | done | with_reducible assumption | omega) (fun q0 z0 => by obtain rfl := Option.some.inj ((d2).symm.trans z0); (try rw [c97]); first | done | with_reducible assumption | exact om_5bac22bd p17 q00_0) (fun q0 z0 => by obtain rfl := Option.some.inj ((d2).symm.trans z0); (try rw [c98]); first | done | with_reducible assumption | exact om_5bac22bd p21 q00_1) (fun q0 z0 => by obtain rfl := Option.some.inj ((d2).symm.trans z0); (try rw [c99]); first | done | with_reducible assumption | exact om_5bac22bd p25 q00_2) (fun q0 z0 => by obtain rfl := Option.some.inj ((d2).symm.trans z0); (try rw [c100]); first | done | with_reducible assumption | exact om_5bac22bd p29 q00_3) (fun q0 z0 => by obtain rfl := Option.some.inj ((d2).symm.trans z0); (try rw [c101]); first | done | with_reducible assumption | exact om_5bac22bd p33 q00_4) (fun q0 z0 => by obtain rfl := Option.some.inj ((d2).symm.trans z0); (try rw [c102]); first | done | with_reducible assumption | exact om_5bac22bd p37 q00_5) (fun q0 z0 => by obtain rfl := Option.some.inj ((d2).symm.trans z0); (try rw [c103]); first | done | with_reducible assumption | exact om_5bac22bd p41 q00_6) (fun q0 z0 => by obtain rfl := Option.some.inj ((d2).symm.trans z0); (try rw [c104]); first | done | with_reducible assumption | exact om_5bac22bd p45 q00_8) ⟨_, d2⟩) ?_
  rintro cn' K' N' I125 R126 L127 ⟨rfl, rfl, rfl, rfl, g128, rp131, dj132, -⟩
  have hS133 := hS95.tr g128 (by decide +kernel) (by decide +kernel)
  have c134 : I125 a0 19 = v49 := (g128.cell ta0 (by decide +kernel)).trans c105
  have c135 : I125 a0 20 = v52 := (g128.cell ta0 (by decide +kernel)).trans c106
  have hO136 : FrO 14 a1 T I0 I125 := hO107.tr (rp131 _ d2)
  rcases dj132 with ⟨p137, p138, p139, p140, p141, p142, p143, gl144, -⟩ | ⟨p145, p146, p147, p148, -⟩
  · skip
    have hL149 := hL108.tr gl144 (by decide +kernel)
    obtain ⟨v150, c151⟩ : ∃ v, I125 a0 13 = v := ⟨_, rfl⟩
    rw [c151] at p138
    rw [c96] at p138
    obtain ⟨v152, c153⟩ : ∃ v, I125 a1 3 = v := ⟨_, rfl⟩
    have b154 := iv14_3 hS133.1 ta1 c153
    have p155 := p139 _ d2
    clear p139
    rw [c153] at p155
    obtain ⟨v156, c157⟩ : ∃ v, I125 a0 9 = v := ⟨_, rfl⟩
    have b158 := iv15_9 hS133.1 ta0 c157
    rw [c157] at p140
    obtain ⟨v159, c160⟩ : ∃ v, I125 a1 0 = v := ⟨_, rfl⟩
    have b161 := iv14_0 hS133.1 ta1 c160
    have p162 := p141 _ d2
    clear p141
    rw [c160] at p162
    have p163 := p142 _ d2
    clear p142
    rw [c160] at p163
    obtain ⟨v164, c165⟩ : ∃ v, I125 a1 5 = v := ⟨_, rfl⟩
    have b166 := iv14_5 hS133.1 ta1 c165
    have p167 := p143 _ d2
    clear p143
    rw [c165] at p167
    refine tr_aload_n dX12_alp_67 hl0 ?_
    refine q_getI dX12_alp_68 fl12_128 (kR15 hS133.1 ta0) c151 ?_
    refine q_if_le 89 dX12_alp_71 (by decide) (fun h168 => ?_) (fun h168 => ?_)
    · skip
      refine tr_aload_n dX12_alp_89 hl0 ?_
      refine tr_aload_n dX12_alp_90 hl0 ?_
      refine tr_getR dX12_alp_91 fl12_188 (kR15 hS133.1 ta0) d2 ?_
      refine q_putRA dX12_alp_94 fl12_385 (kR15 hS133.1 ta0) (Or.inl rfl) hS133 ta0 (by decide +kernel) (hS133.1.putA ta0 ta1 (by rw [c160]; exact om_319871c5 p162)) ?_
      intro R169 hS170 e171 f172
      refine q_iconst dX12_alp_97 (by decide) ?_
      intro v173 h174
      refine tr_istore_n dX12_alp_98 (by decide) (by decide) ?_
      obtain ⟨v198, c199⟩ : ∃ v, I125 a0 2 = v := ⟨_, rfl⟩
      obtain ⟨v200, c201⟩ : ∃ v, I125 a0 1 = v := ⟨_, rfl⟩
      have lp210 : ∀ (fu : Nat) (ls : Nat → Option Value) (v175 : Int32) (I179 : cz_I) (L180 : cz_L) (v184 : Int32) (v186 : Int32) (v188 : Int32) (v190 : Int32) (v192 : Int32) (v194 : Int32) (v196 : Int32), ls 0 = some (.ref a0) → ls 1 = some (.int x1) → ls 2 = some (.int v175) → St T cn K N 0 wif_alpB wrf_alpB I0 R0 I179 R169 → LgS T wlf_alpB L0 L180 → FrO 14 a1 T I0 I179 → I179 a0 13 = v184 → I179 a0 6 = v186 → I179 a0 2 = v188 → I179 a0 1 = v190 → I179 a1 3 = v192 → I179 a1 0 = v194 → I179 a1 5 = v196 → 0 ≤ v175.toInt → v184.toInt = 0 → v186.toInt = v46.toInt → v192.toInt = (lsC gB 901 0 Q00) → v175.toInt ≤ 15 → v194.toInt = (lsA0 gB 901 0 Q00) → v196.toInt = (lsA5 gB 901 0 Q00) → (∀ c : Nat, (c : Int) < v175.toInt → I179 a55 c = 0) → (-v175.toInt + 2147483647).toNat < fu → Tr X mX12_alp 99 ls [] cn K N I179 R169 L180 24 247 := by
        intro fu
        induction fu with
        | zero => intros; rename_i hz; exact absurd hz (Nat.not_lt_zero _)
        | succ fu ih210 =>
          intro ls v175 I179 L180 v184 v186 v188 v190 v192 v194 v196 hl176 hl177 hl178 hS181 hL182 hO183 c185 c187 c189 c191 c193 c195 c197 g202 g203 g204 g205 g206 g207 g208 rw209 hm210
          have b212 := iv15_6 hS181.1 ta0 c187
          have b213 := iv14_3 hS181.1 ta1 c193
          have b214 := iv14_0 hS181.1 ta1 c195
          have b215 := iv14_5 hS181.1 ta1 c197
          refine tr_iload_n dX12_alp_99 hl178 ?_
          refine q_bipush dX12_alp_100 (by decide +kernel) ?_
          intro v216 h217
          refine q_icmp_ge 118 dX12_alp_102 (by decide) (fun h218 => ?_) (fun h218 => ?_)
          · skip
            refine tr_aload_n dX12_alp_118 hl176 ?_
            refine q_iconst dX12_alp_119 (by decide) ?_
            intro v219 h220
            refine q_putI dX12_alp_120 fl12_387 (kR15 hS181.1 ta0) (Or.inl rfl) hS181 ta0 (by show (0 : Int) ≤ v219.toInt ∧ v219.toInt ≤ (12 : Int); exact om_dbf687ed h220) rfl (by decide +kernel) ?_
            intro I221 hS222 e223 f224
            have c225 : I221 a0 13 = v184 := (f224 _ _ (fun q => absurd q.2 (by decide))).trans c185
            have c226 : I221 a0 6 = v186 := (f224 _ _ (fun q => absurd q.2 (by decide))).trans c187
            have c227 : I221 a0 2 = v188 := (f224 _ _ (fun q => absurd q.2 (by decide))).trans c189
            have c228 : I221 a0 1 = v190 := (f224 _ _ (fun q => absurd q.2 (by decide))).trans c191
            have c229 : I221 a1 3 = v192 := (f224 _ _ (fun q => absurd q.2 (by decide))).trans c193
            have c230 : I221 a1 0 = v194 := (f224 _ _ (fun q => absurd q.2 (by decide))).trans c195
            have c231 : I221 a1 5 = v196 := (f224 _ _ (fun q => absurd q.2 (by decide))).trans c197
            have hO232 : FrO 14 a1 T I0 I221 := hO183.put f224 ta0 (Or.inl (by decide))
            refine tr_aload_n dX12_alp_123 hl176 ?_
            refine q_iconst dX12_alp_124 (by decide) ?_
            intro v233 h234
            refine q_putI dX12_alp_125 fl12_390 (kR15 hS222.1 ta0) (Or.inl rfl) hS222 ta0 (by show (0 : Int) ≤ v233.toInt ∧ v233.toInt ≤ (3 : Int); exact om_a28085d4 h234) rfl (by decide +kernel) ?_
            intro I235 hS236 e237 f238
            have c239 : I235 a0 13 = v184 := (f238 _ _ (fun q => absurd q.2 (by decide))).trans c225
            have c240 : I235 a0 6 = v186 := (f238 _ _ (fun q => absurd q.2 (by decide))).trans c226
            have c241 : I235 a0 2 = v188 := (f238 _ _ (fun q => absurd q.2 (by decide))).trans c227
            have c242 : I235 a0 1 = v190 := (f238 _ _ (fun q => absurd q.2 (by decide))).trans c228
            have c243 : I235 a1 3 = v192 := (f238 _ _ (fun q => absurd q.2 (by decide))).trans c229
            have c244 : I235 a1 0 = v194 := (f238 _ _ (fun q => absurd q.2 (by decide))).trans c230
            have c245 : I235 a1 5 = v196 := (f238 _ _ (fun q => absurd q.2 (by decide))).trans c231
            have c246 : I235 a0 19 = v219 := (f238 _ _ (fun q => absurd q.2 (by decide))).trans e223
            have hO247 : FrO 14 a1 T I0 I235 := hO232.put f238 ta0 (Or.inl (by decide))
            refine tr_aload_n dX12_alp_128 hl176 ?_
            refine tr_aload_n dX12_alp_129 hl176 ?_
            refine tr_getR dX12_alp_130 fl12_385 (kR15 hS236.1 ta0) e171 ?_
            refine q_getI dX12_alp_133 fl12_224 (kR14 hS236.1 ta1) c243 ?_
            refine q_callVi hE (M' := mX12_good) (as := [_]) dX12_alp_136 lk12_81 inX12_good seX12_good myX12_good (by decide) ⟨by decide, by decide⟩ rfl (kR15 hS236.1 ta0) (Nat.le_of_ble_eq_true rfl) rfl rfl (by decide) (by decide) (fk_X12_good hS236.1  ta0) ?_
            rintro v253 cn' K' N' I248 R249 L250 ⟨rfl, rfl, rfl, rfl, rfl, g251, p254, p255, p256, -⟩
            have hS257 := hS236.tr g251 (by decide +kernel) (by decide +kernel)
            have c258 : I248 a0 13 = v184 := (g251.cell ta0 (by decide +kernel)).trans c239
            have c259 : I248 a0 6 = v186 := (g251.cell ta0 (by decide +kernel)).trans c240
            have c260 : I248 a1 3 = v192 := (g251.cell ta1 (by decide +kernel)).trans c243
            have c261 : I248 a1 0 = v194 := (g251.cell ta1 (by decide +kernel)).trans c244
            have c262 : I248 a1 5 = v196 := (g251.cell ta1 (by decide +kernel)).trans c245
            have c263 : I248 a0 19 = v219 := (g251.cell ta0 (by decide +kernel)).trans c246
            have c264 : I248 a0 20 = v233 := (g251.cell ta0 (by decide +kernel)).trans e237
            have hO265 : FrO 14 a1 T I0 I248 := hO247.st g251 (by decide +kernel)
            obtain ⟨v266, c267⟩ : ∃ v, I248 a0 1 = v := ⟨_, rfl⟩
            rw [c267] at p255
            obtain ⟨v268, c269⟩ : ∃ v, I248 a0 2 = v := ⟨_, rfl⟩
            rw [c269] at p256
            exact tr_iret hZ dX12_alp_139 rfl (by decide) (by decide) (hq _ _ _ _ ⟨hS257, (fun dr hd => (Option.some.inj (d2.symm.trans hd)) ▸ hO265), (Or.inl ⟨(by first | done | with_reducible assumption | omega), (by first | done | with_reducible assumption | exact om_9fa72578 g205 p254), (by (try rw [((hS257.cell ta0 (by decide +kernel)).trans c47)]); (try rw [c47]); first | done | with_reducible assumption | omega), (by (try rw [c258]); first | done | with_reducible assumption | omega), (by (try rw [c267]); first | done | with_reducible assumption | omega), (by (try rw [c269]); first | done | with_reducible assumption | omega), (fun q0 z0 => by obtain rfl := Option.some.inj ((e171).symm.trans z0); (try rw [c261]); first | done | with_reducible assumption | omega), (fun q0 z0 => by obtain rfl := Option.some.inj ((e171).symm.trans z0); (try rw [c262]); first | done | with_reducible assumption | omega), (by (try rw [c263]); first | done | with_reducible assumption | omega), (by (try rw [c264]); first | done | with_reducible assumption | omega), ((e171).trans (d2).symm), (fun w hw c hc => by obtain rfl := Option.some.inj (d56.symm.trans hw); exact (((g251.cell ta55 (wm_no (by decide +kernel))).trans ((f238 _ _ (fun q => by have z := ta55; rw [q.1, ta0] at z; exact absurd z (by decide))).trans (f224 _ _ (fun q => by have z := ta55; rw [q.1, ta0] at z; exact absurd z (by decide)))))).trans (rw209 c (by exact om_f7185e3a h217 h218 hc))), trivial⟩), trivial⟩)
          · skip
            refine tr_aload_n dX12_alp_105 hl176 ?_
            refine tr_getR dX12_alp_106 fl12_17 (kR15 hS181.1 ta0) ((hS181.rcell ta0 (by decide +kernel)).trans d56) ?_
            refine tr_iload_n dX12_alp_109 hl178 ?_
            refine q_iconst dX12_alp_110 (by decide) ?_
            intro v270 h271
            refine q_iast dX12_alp_111 (kR77 hS181.1 ta55) (ti_in (nR77 hS181.1 ta55) (by exact om_2cfcd5a5 g202) (by exact om_e5c31555 g202 g206 h217 h218)) hS181 ta55 (iok_w0 rfl (by exact om_29f55913 h271)) rfl (by rfl) ?_
            intro I272 hS273 e275 f274
            have c276 : I272 a0 13 = v184 := (f274 _ _ (fun q => by have z := ta0; rw [q.1, ta55] at z; exact absurd z (by decide))).trans c185
            have c277 : I272 a0 6 = v186 := (f274 _ _ (fun q => by have z := ta0; rw [q.1, ta55] at z; exact absurd z (by decide))).trans c187
            have c278 : I272 a0 2 = v188 := (f274 _ _ (fun q => by have z := ta0; rw [q.1, ta55] at z; exact absurd z (by decide))).trans c189
            have c279 : I272 a0 1 = v190 := (f274 _ _ (fun q => by have z := ta0; rw [q.1, ta55] at z; exact absurd z (by decide))).trans c191
            have c280 : I272 a1 3 = v192 := (f274 _ _ (fun q => by have z := ta1; rw [q.1, ta55] at z; exact absurd z (by decide))).trans c193
            have c281 : I272 a1 0 = v194 := (f274 _ _ (fun q => by have z := ta1; rw [q.1, ta55] at z; exact absurd z (by decide))).trans c195
            have c282 : I272 a1 5 = v196 := (f274 _ _ (fun q => by have z := ta1; rw [q.1, ta55] at z; exact absurd z (by decide))).trans c197
            have hO283 : FrO 14 a1 T I0 I272 := hO183.put f274 ta55 (Or.inl (by decide))
            refine q_iincE dX12_alp_112 hl178 (by decide) (by decide) (by intro j1 j2; exact om_28307bfb g202 g206) ?_
            intro v284 h285
            refine tr_goto 99 dX12_alp_115 (by decide) ?_
            exact ih210 _ v284 I272 L180 v184 v46 v188 v190 v192 v194 v196 hl176 hl177 rfl hS273 hL182 hO283 c276 ((hS273.cell ta0 (by decide +kernel)).trans c47) c278 c279 c280 c281 c282 (by exact om_5d7f4aa4 g202 g206 h217 h218 h285) (by exact om_29f55913 g203) (by exact om_4ee7209a) (by exact om_acd7a85a g205) (by exact om_4ab7b23a g202 g206 h217 h218 h285) (by exact om_acd7a85a g207) (by exact om_acd7a85a g208) (fun c hc => by by_cases q : c = v175.toNatClampNeg; subst q; exact e275.trans (Int32.toInt_inj.mp (by rw [h271]; rfl)); rw [f274 _ _ (fun z => q z.2)]; exact rw209 c (by have z := ti_nat (i := v175) (by exact om_2cfcd5a5 g202); exact om_33d4b3e5 h285 hc q z)) (by exact om_afd4cec7 g202 g206 hm210 h217 h218 h285)
      exact lp210 _ _ v173 I125 L127 v150 v46 v198 v200 v152 v159 v164 hl0 hl1 rfl hS170 hL149 hO136 c151 ((hS170.cell ta0 (by decide +kernel)).trans c47) c199 c201 c153 c160 c165 (by exact om_d99fa9e4 h174) (by exact om_d12bbb76 p5 p138) (by exact om_4ee7209a) (by exact om_acd7a85a p155) (by exact om_a15f8564 h174) (by exact om_acd7a85a p163) (by exact om_acd7a85a p167) (fun c hc => by omega) (Nat.lt_succ_self _)
    · skip
      exfalso; exact om_d962f823 p5 p138 h168
  · skip
    obtain ⟨v286, c287⟩ : ∃ v, I125 a0 9 = v := ⟨_, rfl⟩
    have b288 := iv15_9 hS133.1 ta0 c287
    rw [c287] at p146
    obtain ⟨v289, c290⟩ : ∃ v, I125 a0 13 = v := ⟨_, rfl⟩
    rw [c290] at p147
    obtain ⟨v291, c292⟩ : ∃ v, I125 a0 14 = v := ⟨_, rfl⟩
    rw [c292] at p148
    refine tr_aload_n dX12_alp_67 hl0 ?_
    refine q_getI dX12_alp_68 fl12_128 (kR15 hS133.1 ta0) c290 ?_
    refine q_if_le 89 dX12_alp_71 (by decide) (fun h293 => ?_) (fun h293 => ?_)
    · skip
      exfalso; exact om_6753ac17 lsn p145 p147 h293
    · skip
      refine tr_aload_n dX12_alp_74 hl0 ?_
      refine q_iconst dX12_alp_75 (by decide) ?_
      intro v294 h295
      refine q_putI dX12_alp_76 fl12_73 (kR15 hS133.1 ta0) (Or.inl rfl) hS133 ta0 (iokF rfl) rfl (by decide +kernel) ?_
      intro I296 hS297 e298 f299
      have c300 : I296 a0 19 = v49 := (f299 _ _ (fun q => absurd q.2 (by decide))).trans c134
      have c301 : I296 a0 20 = v52 := (f299 _ _ (fun q => absurd q.2 (by decide))).trans c135
      have c302 : I296 a0 9 = v286 := (f299 _ _ (fun q => absurd q.2 (by decide))).trans c287
      have c303 : I296 a0 13 = v289 := (f299 _ _ (fun q => absurd q.2 (by decide))).trans c290
      have c304 : I296 a0 14 = v291 := (f299 _ _ (fun q => absurd q.2 (by decide))).trans c292
      have hO305 : FrO 14 a1 T I0 I296 := hO136.put f299 ta0 (Or.inl (by decide))
      refine tr_aload_n dX12_alp_79 hl0 ?_
      refine tr_aload_n dX12_alp_80 hl0 ?_
      refine q_getI dX12_alp_81 fl12_131 (kR15 hS297.1 ta0) c304 ?_
      refine q_putI dX12_alp_84 fl12_9 (kR15 hS297.1 ta0) (Or.inl rfl) hS297 ta0 (iokF rfl) rfl (by decide +kernel) ?_
      intro I306 hS307 e308 f309
      have c310 : I306 a0 19 = v49 := (f309 _ _ (fun q => absurd q.2 (by decide))).trans c300
      have c311 : I306 a0 20 = v52 := (f309 _ _ (fun q => absurd q.2 (by decide))).trans c301
      have c312 : I306 a0 9 = v286 := (f309 _ _ (fun q => absurd q.2 (by decide))).trans c302
      have c313 : I306 a0 13 = v289 := (f309 _ _ (fun q => absurd q.2 (by decide))).trans c303
      have c314 : I306 a0 14 = v291 := (f309 _ _ (fun q => absurd q.2 (by decide))).trans c304
      have c315 : I306 a0 1 = v294 := (f309 _ _ (fun q => absurd q.2 (by decide))).trans e298
      have hO316 : FrO 14 a1 T I0 I306 := hO305.put f309 ta0 (Or.inl (by decide))
      refine q_iconst dX12_alp_87 (by decide) ?_
      intro v317 h318
      exact tr_iret hZ dX12_alp_88 rfl (by decide) (by decide) (hq _ _ _ _ ⟨hS307, (fun dr hd => (Option.some.inj (d2.symm.trans hd)) ▸ hO316), (Or.inr (⟨(by first | done | with_reducible assumption | omega), (by first | done | with_reducible assumption | omega), (by (try rw [((hS307.cell ta0 (by decide +kernel)).trans c47)]); (try rw [c47]); first | done | with_reducible assumption | omega), (by (try rw [c313]); first | done | with_reducible assumption | omega), (by (try rw [c315]); first | done | with_reducible assumption | omega), (by (try rw [e308]); first | done | with_reducible assumption | omega), rfl, ⟨(c310).trans (c50).symm, (c311).trans (c53).symm, fun a j h => by rcases h with h | h | h; exact ((f309 _ _ (fun q => by have z := h; rw [q.1, ta0] at z; exact absurd z (by decide))).trans ((f299 _ _ (fun q => by have z := h; rw [q.1, ta0] at z; exact absurd z (by decide))).trans ((g128.cell h (wm_no (by decide +kernel))).trans ((g84.cell h (wm_no (by decide +kernel))).trans (f66 _ _ (fun q => by have z := h; rw [q.1, ta0] at z; exact absurd z (by decide))))))); exact ((f309 _ _ (fun q => by have z := h; rw [q.1, ta0] at z; exact absurd z (by decide))).trans ((f299 _ _ (fun q => by have z := h; rw [q.1, ta0] at z; exact absurd z (by decide))).trans ((g128.cell h (wm_no (by decide +kernel))).trans ((g84.cell h (wm_no (by decide +kernel))).trans (f66 _ _ (fun q => by have z := h; rw [q.1, ta0] at z; exact absurd z (by decide))))))); exact ((f309 _ _ (fun q => by have z := h; rw [q.1, ta0] at z; exact absurd z (by decide))).trans ((f299 _ _ (fun q => by have z := h; rw [q.1, ta0] at z; exact absurd z (by decide))).trans ((g128.cell h (wm_no (by decide +kernel))).trans ((g84.cell h (wm_no (by decide +kernel))).trans (f66 _ _ (fun q => by have z := h; rw [q.1, ta0] at z; exact absurd z (by decide)))))))⟩, trivial⟩)), trivial⟩)
