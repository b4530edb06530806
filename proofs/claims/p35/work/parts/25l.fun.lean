def wik_X10_alp : List Nat := [65, 69, 73, 75, 79, 80, 81, 128, 129, 131, 133, 135, 137, 139, 141, 192, 193, 194, 195, 256, 257, 258, 259, 260, 261, 320, 321, 322, 323, 384, 449, 450, 451, 452, 454, 455, 456, 457, 459, 460, 463, 464, 512, 513, 514, 704, 706, 1215, 1343, 1599]
def wrk_X10_alp : List Nat := [66, 67, 458]
def wlk_X10_alp : List Nat := [453, 1663, 1727]
set_option maxHeartbeats 4000000 in
theorem fk_X10_alp {l : Launch} {T : Nat → Nat} {cn : Nat} {K N : Nat → Nat} {I0 : cz_I} {R0 : cz_R} {L0 : cz_L} {d : Int} (hW0 : Wf T cn K N I0 R0 d) (gT : Nat → Int32) {a0 : Nat} (ta0 : T a0 = 1) {x1 : Int32} (hY : ∀ t, R0 a0 0 = some t → ∀ k : Nat, k < 900 → I0 t k = gT k) (hU : ∀ r, R0 a0 4 = some r → R0 r 0 = R0 a0 0) : ConE l mX10_alp [.ref a0, .int x1] cn K N I0 R0 L0 (ca_i (fun v cn' K' N' I' R' L' => cn = cn' ∧ K = K' ∧ N = N' ∧ St T cn K N d wik_X10_alp wrk_X10_alp I0 R0 I' R' ∧ LgS T wlk_X10_alp L0 L' ∧ (∀ dr, R0 a0 3 = some dr → FrO 2 dr T I0 I') ∧ ((((x1.toInt < 0 ∨ x1.toInt > (I0 a0 1).toInt)) ∧ (v.toInt = -1) ∧ ((I' a0 1).toInt = (I0 a0 1).toInt) ∧ ((I' a0 15).toInt = (I0 a0 15).toInt) ∧ ((I' a0 16).toInt = (I0 a0 16).toInt) ∧ ((I' a0 17).toInt = 2) ∧ (R' a0 2 = R0 a0 2 ∧ R' a0 3 = R0 a0 3) ∧ ((∀ a j, T a = 8 ∨ T a = 10 ∨ T a = 11 → I' a j = I0 a j) ∧ I' a0 5 = I0 a0 5) ∧ True) ∨ ((0 ≤ x1.toInt) ∧ (x1.toInt ≤ (I0 a0 1).toInt) ∧ ((lsF (gT, x1.toInt) 901 0 Q00) = 0) ∧ (v.toInt = (lsC (gT, x1.toInt) 901 0 Q00)) ∧ ((I' a0 1).toInt = 0) ∧ ((I' a0 15).toInt = 0) ∧ ((I' a0 17).toInt = 0) ∧ ((I' a0 5).toInt = 1) ∧ (∀ b1, R' a0 6 = some b1 → (I' b1 0).toInt = 0) ∧ (∀ b1, R' a0 6 = some b1 → (I' b1 1).toInt = 0) ∧ (∀ b1, R' a0 6 = some b1 → (I' b1 2).toInt = 0) ∧ (∀ b1, R' a0 7 = some b1 → (I' b1 0).toInt = 0) ∧ (∀ b1, R' a0 7 = some b1 → (I' b1 2).toInt = 0) ∧ (∀ b1, R' a0 2 = some b1 → (I' b1 0).toInt = (lsA0 (gT, x1.toInt) 901 0 Q00)) ∧ (∀ b1, R' a0 2 = some b1 → (I' b1 11).toInt = (lsA5 (gT, x1.toInt) 901 0 Q00)) ∧ (R' a0 2 = R0 a0 3 ∧ R' a0 3 = R0 a0 2) ∧ True) ∨ ((0 ≤ x1.toInt) ∧ (x1.toInt ≤ (I0 a0 1).toInt) ∧ ((lsF (gT, x1.toInt) 901 0 Q00) ≠ 0) ∧ (v.toInt = -1) ∧ ((I' a0 1).toInt = 0) ∧ ((I' a0 15).toInt = (lsF (gT, x1.toInt) 901 0 Q00)) ∧ ((I' a0 16).toInt = (lsP (gT, x1.toInt) 901 0 Q00)) ∧ ((I' a0 17).toInt = 4) ∧ (R' a0 2 = R0 a0 2 ∧ R' a0 3 = R0 a0 3) ∧ ((∀ a j, T a = 8 ∨ T a = 10 ∨ T a = 11 → I' a j = I0 a j) ∧ I' a0 5 = I0 a0 5) ∧ True)) ∧ True)) := by
  refine ConE.of (by decide +kernel) rfl (Nat.le_of_ble_eq_true rfl) rfl (fun X hX hZ hE => ?_)
  subst hX
  have hS0 : St T cn K N d wik_X10_alp wrk_X10_alp I0 R0 I0 R0 := St.rf0 hW0
  have hL0 : LgS T wlk_X10_alp L0 L0 := LgS.rf0
  obtain ⟨v1, c2⟩ : ∃ v, I0 a0 1 = v := ⟨_, rfl⟩
  have b3 := iv1_1 hS0.1 ta0 c2
  obtain ⟨v4, c5⟩ : ∃ v, I0 a0 15 = v := ⟨_, rfl⟩
  obtain ⟨v6, c7⟩ : ∃ v, I0 a0 16 = v := ⟨_, rfl⟩
  obtain ⟨a8, d9, ta8⟩ := rf1_3 hS0.1 ta0
  have hO0 : FrO 2 a8 T I0 I0 := FrO.rf
  obtain ⟨a10, d11, ta10⟩ := rf1_2 hS0.1 ta0
  obtain ⟨v12, c13⟩ : ∃ v, I0 a0 5 = v := ⟨_, rfl⟩
  have b14 := iv1_5 hS0.1 ta0 c13
  refine tr_iload_n dX10_alp_0 rfl ?_
  refine q_if_lt 12 dX10_alp_1 (by decide) (fun h15 => ?_) (fun h15 => ?_)
  · skip
    refine tr_aload_n dX10_alp_12 rfl ?_
    refine q_iconst dX10_alp_13 (by decide) ?_
    intro v16 h17
    refine q_callVi hE (M' := mX10_refused) (as := [_]) dX10_alp_14 lk10_79 inX10_refused seX10_refused myX10_refused (by decide) ⟨by decide, by decide⟩ rfl (kR1 hS0.1 ta0) (Nat.le_of_ble_eq_true rfl) rfl rfl (by decide) (by decide) (fk_X10_refused hS0.1  ta0) ?_
    rintro v23 cn' K' N' I18 R19 L20 ⟨rfl, rfl, rfl, rfl, rfl, g21, p24, p25, -⟩
    have hS26 := hS0.tr g21 (by decide +kernel) (by decide +kernel)
    have c27 : I18 a0 1 = v1 := (g21.cell ta0 (by decide +kernel)).trans c2
    have c28 : I18 a0 15 = v4 := (g21.cell ta0 (by decide +kernel)).trans c5
    have c29 : I18 a0 16 = v6 := (g21.cell ta0 (by decide +kernel)).trans c7
    have c30 : I18 a0 5 = v12 := (g21.cell ta0 (by decide +kernel)).trans c13
    have hO31 : FrO 2 a8 T I0 I18 := hO0.st g21 (by decide +kernel)
    obtain ⟨v32, c33⟩ : ∃ v, I18 a0 17 = v := ⟨_, rfl⟩
    rw [c33] at p25
    obtain ⟨a34, d35, ta34⟩ := rf1_6 hW0 ta0
    obtain ⟨v36, c37⟩ : ∃ v, I18 a34 0 = v := ⟨_, rfl⟩
    obtain ⟨v38, c39⟩ : ∃ v, I18 a34 1 = v := ⟨_, rfl⟩
    have b40 := iv8_1 hS26.1 ta34 c39
    obtain ⟨v41, c42⟩ : ∃ v, I18 a34 2 = v := ⟨_, rfl⟩
    have b43 := iv8_2 hS26.1 ta34 c42
    obtain ⟨a44, d45, ta44⟩ := rf1_7 hW0 ta0
    obtain ⟨v46, c47⟩ : ∃ v, I18 a44 0 = v := ⟨_, rfl⟩
    have b48 := iv11_0 hS26.1 ta44 c47
    obtain ⟨v49, c50⟩ : ∃ v, I18 a44 2 = v := ⟨_, rfl⟩
    have b51 := iv11_2 hS26.1 ta44 c50
    obtain ⟨v52, c53⟩ : ∃ v, I18 a10 0 = v := ⟨_, rfl⟩
    have b54 := iv2_0 hS26.1 ta10 c53
    obtain ⟨v55, c56⟩ : ∃ v, I18 a10 11 = v := ⟨_, rfl⟩
    have b57 := iv2_11 hS26.1 ta10 c56
    exact tr_iret hZ dX10_alp_17 rfl (by decide) (by decide) ⟨v23, rfl, rfl, rfl, rfl, hS26, hL0, (fun dr hd => (Option.some.inj (d9.symm.trans hd)) ▸ hO31), (Or.inl ⟨(by (try rw [c2]); first | done | with_reducible assumption | exact om_99c447d6 h15), (by first | done | with_reducible assumption | omega), (by (try rw [c27]); (try rw [c2]); first | done | with_reducible assumption | omega), (by (try rw [c28]); (try rw [c5]); first | done | with_reducible assumption | omega), (by (try rw [c29]); (try rw [c7]); first | done | with_reducible assumption | omega), (by (try rw [c33]); first | done | with_reducible assumption | exact om_85972af0 h17 p25), ⟨(d11).trans (d11).symm, (d9).trans (d9).symm⟩, ⟨fun a j h => by rcases h with h | h | h; exact (g21.cell h (wm_no (by decide +kernel))); exact (g21.cell h (wm_no (by decide +kernel))); exact (g21.cell h (wm_no (by decide +kernel))), (c30).trans (c13).symm⟩, trivial⟩), trivial⟩
  · skip
    refine tr_iload_n dX10_alp_4 rfl ?_
    refine tr_aload_n dX10_alp_5 rfl ?_
    refine q_getI dX10_alp_6 fl10_71 (kR1 hS0.1 ta0) c2 ?_
    refine q_icmp_le 18 dX10_alp_9 (by decide) (fun h58 => ?_) (fun h58 => ?_)
    · skip
      refine tr_aload_n dX10_alp_18 rfl ?_
      obtain ⟨a59, d60, ta59⟩ := rf1_4 hW0 ta0
      refine tr_getR dX10_alp_19 fl10_28 (kR1 hS0.1 ta0) d60 ?_
      refine tr_aload_n dX10_alp_22 rfl ?_
      refine tr_getR dX10_alp_23 fl10_20 (kR1 hS0.1 ta0) d9 ?_
      refine tr_iload_n dX10_alp_26 rfl ?_
      refine q_callVi hE (M' := mX7_readAll) (as := [_, _]) dX10_alp_27 lk10_83 inX7_readAll seX7_readAll myX7_readAll (by decide) ⟨by decide, by decide⟩ rfl (kR7 hS0.1 ta59) (Nat.le_of_ble_eq_true rfl) rfl rfl (by decide) (by decide) (fk_X7_readAll hS0.1 ((gT, x1.toInt)) ta59 ta8 (by exact om_8e2484d1 b3.2 b3.1 h15 h58) (Tx.ec hY hU d60 (by exact om_2cfcd5a5 h15) (by exact om_968f5287 b3.2 b3.1 h58)) (by first | done | with_reducible assumption | exact om_4ee7209a)) ?_
      rintro v66 cn' K' N' I61 R62 L63 ⟨rfl, rfl, rfl, g64, gl65, h67, rp68, dj69, -⟩
      have hS70 := hS0.tr g64 (by decide +kernel) (by decide +kernel)
      have c71 : I61 a0 1 = v1 := (g64.cell ta0 (by decide +kernel)).trans c2
      have c72 : I61 a0 15 = v4 := (g64.cell ta0 (by decide +kernel)).trans c5
      have c73 : I61 a0 16 = v6 := (g64.cell ta0 (by decide +kernel)).trans c7
      have c74 : I61 a0 5 = v12 := (g64.cell ta0 (by decide +kernel)).trans c13
      have d75 : R62 a0 3 = some a8 := (g64.rcell ta0 (by decide +kernel)).trans d9
      have d76 : R62 a0 2 = some a10 := (g64.rcell ta0 (by decide +kernel)).trans d11
      have hO77 : FrO 2 a8 T I0 I61 := hO0.tr rp68
      have hL78 := hL0.tr gl65 (by decide +kernel)
      rcases dj69 with ⟨p79, p80, p81, p82, p83, p84, -⟩ | ⟨p85, p86, p87, p88, -⟩
      · skip
        obtain ⟨v89, c90⟩ : ∃ v, I61 a59 15 = v := ⟨_, rfl⟩
        rw [c90] at p81
        obtain ⟨v91, c92⟩ : ∃ v, I61 a8 5 = v := ⟨_, rfl⟩
        have b93 := iv2_5 hS70.1 ta8 c92
        rw [c92] at p82
        obtain ⟨v94, c95⟩ : ∃ v, I61 a8 0 = v := ⟨_, rfl⟩
        have b96 := iv2_0 hS70.1 ta8 c95
        rw [c95] at p83
        obtain ⟨v97, c98⟩ : ∃ v, I61 a8 11 = v := ⟨_, rfl⟩
        have b99 := iv2_11 hS70.1 ta8 c98
        rw [c98] at p84
        refine tr_istore_n dX10_alp_30 (by decide) (by decide) ?_
        refine tr_aload_n dX10_alp_31 rfl ?_
        refine q_iconst dX10_alp_32 (by decide) ?_
        intro v100 h101
        refine q_putI dX10_alp_33 fl10_71 (kR1 hS70.1 ta0) (Or.inl rfl) hS70 ta0 (by show (0 : Int) ≤ v100.toInt ∧ v100.toInt ≤ (900 : Int); exact om_d84473bb h101) rfl (by decide +kernel) ?_
        intro I102 hS103 e104 f105
        have c106 : I102 a0 15 = v4 := (f105 _ _ (fun q => absurd q.2 (by decide))).trans c72
        have c107 : I102 a0 16 = v6 := (f105 _ _ (fun q => absurd q.2 (by decide))).trans c73
        have c108 : I102 a0 5 = v12 := (f105 _ _ (fun q => absurd q.2 (by decide))).trans c74
        have c109 : I102 a59 15 = v89 := (f105 _ _ (fun q => absurd q.2 (by decide))).trans c90
        have c110 : I102 a8 5 = v91 := (f105 _ _ (fun q => absurd q.2 (by decide))).trans c92
        have c111 : I102 a8 0 = v94 := (f105 _ _ (fun q => absurd q.2 (by decide))).trans c95
        have c112 : I102 a8 11 = v97 := (f105 _ _ (fun q => absurd q.2 (by decide))).trans c98
        have hO113 : FrO 2 a8 T I0 I102 := hO77.put f105 ta0 (Or.inl (by decide))
        refine tr_aload_n dX10_alp_36 rfl ?_
        refine tr_aload_n dX10_alp_37 rfl ?_
        refine tr_getR dX10_alp_38 fl10_28 (kR1 hS103.1 ta0) ((hS103.rcell ta0 (by decide +kernel)).trans d60) ?_
        refine q_getI dX10_alp_41 fl10_87 (kR7 hS103.1 ta59) c109 ?_
        refine q_putI dX10_alp_44 fl10_90 (kR1 hS103.1 ta0) (Or.inl rfl) hS103 ta0 (iokF rfl) rfl (by decide +kernel) ?_
        intro I114 hS115 e116 f117
        have c118 : I114 a0 16 = v6 := (f117 _ _ (fun q => absurd q.2 (by decide))).trans c107
        have c119 : I114 a0 5 = v12 := (f117 _ _ (fun q => absurd q.2 (by decide))).trans c108
        have c120 : I114 a59 15 = v89 := (f117 _ _ (fun q => by have z := ta59; rw [q.1, ta0] at z; exact absurd z (by decide))).trans c109
        have c121 : I114 a8 5 = v91 := (f117 _ _ (fun q => absurd q.2 (by decide))).trans c110
        have c122 : I114 a8 0 = v94 := (f117 _ _ (fun q => absurd q.2 (by decide))).trans c111
        have c123 : I114 a8 11 = v97 := (f117 _ _ (fun q => absurd q.2 (by decide))).trans c112
        have c124 : I114 a0 1 = v100 := (f117 _ _ (fun q => absurd q.2 (by decide))).trans e104
        have hO125 : FrO 2 a8 T I0 I114 := hO113.put f117 ta0 (Or.inl (by decide))
        refine tr_aload_n dX10_alp_47 rfl ?_
        refine tr_aload_n dX10_alp_48 rfl ?_
        refine tr_getR dX10_alp_49 fl10_28 (kR1 hS115.1 ta0) ((hS115.rcell ta0 (by decide +kernel)).trans d60) ?_
        obtain ⟨v126, c127⟩ : ∃ v, I114 a59 16 = v := ⟨_, rfl⟩
        refine q_getI dX10_alp_52 fl10_91 (kR7 hS115.1 ta59) c127 ?_
        refine q_putI dX10_alp_55 fl10_94 (kR1 hS115.1 ta0) (Or.inl rfl) hS115 ta0 (iokF rfl) rfl (by decide +kernel) ?_
        intro I128 hS129 e130 f131
        have c132 : I128 a0 5 = v12 := (f131 _ _ (fun q => absurd q.2 (by decide))).trans c119
        have c133 : I128 a59 15 = v89 := (f131 _ _ (fun q => absurd q.2 (by decide))).trans c120
        have c134 : I128 a8 5 = v91 := (f131 _ _ (fun q => absurd q.2 (by decide))).trans c121
        have c135 : I128 a8 0 = v94 := (f131 _ _ (fun q => absurd q.2 (by decide))).trans c122
        have c136 : I128 a8 11 = v97 := (f131 _ _ (fun q => absurd q.2 (by decide))).trans c123
        have c137 : I128 a0 1 = v100 := (f131 _ _ (fun q => absurd q.2 (by decide))).trans c124
        have c138 : I128 a0 15 = v89 := (f131 _ _ (fun q => absurd q.2 (by decide))).trans e116
        have c139 : I128 a59 16 = v126 := (f131 _ _ (fun q => by have z := ta59; rw [q.1, ta0] at z; exact absurd z (by decide))).trans c127
        have hO140 : FrO 2 a8 T I0 I128 := hO125.put f131 ta0 (Or.inl (by decide))
        refine tr_iload_n dX10_alp_58 rfl ?_
        refine q_if_ne 68 dX10_alp_59 (by decide) (fun h141 => ?_) (fun h141 => ?_)
        · skip
          refine tr_aload_n dX10_alp_68 rfl ?_
          refine tr_getR dX10_alp_69 fl10_16 (kR1 hS129.1 ta0) d76 ?_
          refine tr_astore_n dX10_alp_72 (by decide) (by decide) ?_
          refine tr_aload_n dX10_alp_73 rfl ?_
          refine tr_aload_n dX10_alp_74 rfl ?_
          refine tr_getR dX10_alp_75 fl10_20 (kR1 hS129.1 ta0) d75 ?_
          refine q_putR dX10_alp_78 fl10_16 (kR1 hS129.1 ta0) (Or.inl rfl) hS129 ta0 (okR_in rfl rfl ta8) rfl (by decide +kernel) ?_
          intro R142 hS143 e144 f145
          have d146 : R142 a0 3 = some a8 := (f145 _ _ (fun q => absurd q.2 (by decide))).trans d75
          refine tr_aload_n dX10_alp_81 rfl ?_
          refine tr_aload_n dX10_alp_82 rfl ?_
          refine q_putR dX10_alp_83 fl10_20 (kR1 hS143.1 ta0) (Or.inl rfl) hS143 ta0 (okR_in rfl rfl ta10) rfl (by decide +kernel) ?_
          intro R147 hS148 e149 f150
          have d151 : R147 a0 2 = some a8 := (f150 _ _ (fun q => absurd q.2 (by decide))).trans e144
          refine tr_aload_n dX10_alp_86 rfl ?_
          refine q_iconst dX10_alp_87 (by decide) ?_
          intro v152 h153
          refine q_putZ dX10_alp_88 fl10_95 (kR1 hS148.1 ta0) (Or.inl rfl) hS148 ta0 (by exact om_d753bc65 h153) (by show (0 : Int) ≤ v152.toInt ∧ v152.toInt ≤ (1 : Int); exact om_d753bc65 h153) rfl (by decide +kernel) ?_
          intro I154 hS155 e156 f157
          have c158 : I154 a59 15 = v89 := (f157 _ _ (fun q => absurd q.2 (by decide))).trans c133
          have c159 : I154 a8 5 = v91 := (f157 _ _ (fun q => by have z := ta8; rw [q.1, ta0] at z; exact absurd z (by decide))).trans c134
          have c160 : I154 a8 0 = v94 := (f157 _ _ (fun q => absurd q.2 (by decide))).trans c135
          have c161 : I154 a8 11 = v97 := (f157 _ _ (fun q => absurd q.2 (by decide))).trans c136
          have c162 : I154 a0 1 = v100 := (f157 _ _ (fun q => absurd q.2 (by decide))).trans c137
          have c163 : I154 a0 15 = v89 := (f157 _ _ (fun q => absurd q.2 (by decide))).trans c138
          have c164 : I154 a59 16 = v126 := (f157 _ _ (fun q => absurd q.2 (by decide))).trans c139
          have c165 : I154 a0 16 = v126 := (f157 _ _ (fun q => absurd q.2 (by decide))).trans e130
          have hO166 : FrO 2 a8 T I0 I154 := hO140.put f157 ta0 (Or.inl (by decide))
          refine tr_aload_n dX10_alp_91 rfl ?_
          obtain ⟨a167, d168, ta167⟩ := rf1_6 hW0 ta0
          refine tr_getR dX10_alp_92 fl10_35 (kR1 hS155.1 ta0) ((hS155.rcell ta0 (by decide +kernel)).trans d168) ?_
          refine q_callVv hE (M' := mX3_clear) (as := []) dX10_alp_95 lk10_99 inX3_clear seX3_clear myX3_clear (by decide) ⟨by decide, by decide⟩ rfl (kR8 hS155.1 ta167) (Nat.le_of_ble_eq_true rfl) rfl rfl (by decide) (by decide) (fk_X3_clear hS155.1  ta167) ?_
          rintro cn' K' N' I169 R170 L171 ⟨rfl, rfl, rfl, rfl, rfl, g172, p175, p176, p177, -⟩
          have hS178 := hS155.tr g172 (by decide +kernel) (by decide +kernel)
          have c179 : I169 a59 15 = v89 := (g172.cell ta59 (by decide +kernel)).trans c158
          have c180 : I169 a8 5 = v91 := (g172.cell ta8 (by decide +kernel)).trans c159
          have c181 : I169 a8 0 = v94 := (g172.cell ta8 (by decide +kernel)).trans c160
          have c182 : I169 a8 11 = v97 := (g172.cell ta8 (by decide +kernel)).trans c161
          have c183 : I169 a0 1 = v100 := (g172.cell ta0 (by decide +kernel)).trans c162
          have c184 : I169 a0 15 = v89 := (g172.cell ta0 (by decide +kernel)).trans c163
          have c185 : I169 a59 16 = v126 := (g172.cell ta59 (by decide +kernel)).trans c164
          have c186 : I169 a0 16 = v126 := (g172.cell ta0 (by decide +kernel)).trans c165
          have c187 : I169 a0 5 = v152 := (g172.cell ta0 (by decide +kernel)).trans e156
          have hO188 : FrO 2 a8 T I0 I169 := hO166.st g172 (by decide +kernel)
          obtain ⟨v189, c190⟩ : ∃ v, I169 a167 0 = v := ⟨_, rfl⟩
          rw [c190] at p175
          obtain ⟨v191, c192⟩ : ∃ v, I169 a167 1 = v := ⟨_, rfl⟩
          have b193 := iv8_1 hS178.1 ta167 c192
          rw [c192] at p176
          obtain ⟨v194, c195⟩ : ∃ v, I169 a167 2 = v := ⟨_, rfl⟩
          have b196 := iv8_2 hS178.1 ta167 c195
          rw [c195] at p177
          refine tr_aload_n dX10_alp_98 rfl ?_
          obtain ⟨a197, d198, ta197⟩ := rf1_7 hW0 ta0
          refine tr_getR dX10_alp_99 fl10_42 (kR1 hS178.1 ta0) ((hS178.rcell ta0 (by decide +kernel)).trans d198) ?_
          refine q_callVv hE (M' := mX6_clear) (as := []) dX10_alp_102 lk10_102 inX6_clear seX6_clear myX6_clear (by decide) ⟨by decide, by decide⟩ rfl (kR11 hS178.1 ta197) (Nat.le_of_ble_eq_true rfl) rfl rfl (by decide) (by decide) (fk_X6_clear hS178.1  ta197) ?_
          rintro cn' K' N' I199 R200 L201 ⟨rfl, rfl, rfl, rfl, rfl, g202, p205, p206, -⟩
          have hS207 := hS178.tr g202 (by decide +kernel) (by decide +kernel)
          have c208 : I199 a59 15 = v89 := (g202.cell ta59 (by decide +kernel)).trans c179
          have c209 : I199 a8 5 = v91 := (g202.cell ta8 (by decide +kernel)).trans c180
          have c210 : I199 a8 0 = v94 := (g202.cell ta8 (by decide +kernel)).trans c181
          have c211 : I199 a8 11 = v97 := (g202.cell ta8 (by decide +kernel)).trans c182
          have c212 : I199 a0 1 = v100 := (g202.cell ta0 (by decide +kernel)).trans c183
          have c213 : I199 a0 15 = v89 := (g202.cell ta0 (by decide +kernel)).trans c184
          have c214 : I199 a59 16 = v126 := (g202.cell ta59 (by decide +kernel)).trans c185
          have c215 : I199 a0 16 = v126 := (g202.cell ta0 (by decide +kernel)).trans c186
          have c216 : I199 a0 5 = v152 := (g202.cell ta0 (by decide +kernel)).trans c187
          have c217 : I199 a167 0 = v189 := (g202.cell ta167 (by decide +kernel)).trans c190
          have c218 : I199 a167 1 = v191 := (g202.cell ta167 (by decide +kernel)).trans c192
          have c219 : I199 a167 2 = v194 := (g202.cell ta167 (by decide +kernel)).trans c195
          have hO220 : FrO 2 a8 T I0 I199 := hO188.st g202 (by decide +kernel)
          obtain ⟨v221, c222⟩ : ∃ v, I199 a197 0 = v := ⟨_, rfl⟩
          have b223 := iv11_0 hS207.1 ta197 c222
          rw [c222] at p205
          obtain ⟨v224, c225⟩ : ∃ v, I199 a197 2 = v := ⟨_, rfl⟩
          have b226 := iv11_2 hS207.1 ta197 c225
          rw [c225] at p206
          refine tr_aload_n dX10_alp_105 rfl ?_
          refine q_callVv hE (M' := mX10_cloudsMoved) (as := []) dX10_alp_106 lk10_103 inX10_cloudsMoved seX10_cloudsMoved myX10_cloudsMoved (by decide) ⟨by decide, by decide⟩ rfl (kR1 hS207.1 ta0) (Nat.le_of_ble_eq_true rfl) rfl rfl (by decide) (by decide) (k_X10_cloudsMoved hS207.1 ta0) ?_
          rintro cn' K' N' I227 R228 L229 ⟨rfl, rfl, rfl, rfl, rfl, g230, -⟩
          have hS232 := hS207.tr g230 (by decide +kernel) (by decide +kernel)
          have c233 : I227 a59 15 = v89 := (g230.cell ta59 (by decide +kernel)).trans c208
          have c234 : I227 a8 5 = v91 := (g230.cell ta8 (by decide +kernel)).trans c209
          have c235 : I227 a8 0 = v94 := (g230.cell ta8 (by decide +kernel)).trans c210
          have c236 : I227 a8 11 = v97 := (g230.cell ta8 (by decide +kernel)).trans c211
          have c237 : I227 a0 1 = v100 := (g230.cell ta0 (by decide +kernel)).trans c212
          have c238 : I227 a0 15 = v89 := (g230.cell ta0 (by decide +kernel)).trans c213
          have c239 : I227 a59 16 = v126 := (g230.cell ta59 (by decide +kernel)).trans c214
          have c240 : I227 a0 16 = v126 := (g230.cell ta0 (by decide +kernel)).trans c215
          have c241 : I227 a0 5 = v152 := (g230.cell ta0 (by decide +kernel)).trans c216
          have c242 : I227 a167 0 = v189 := (g230.cell ta167 (by decide +kernel)).trans c217
          have c243 : I227 a167 1 = v191 := (g230.cell ta167 (by decide +kernel)).trans c218
          have c244 : I227 a167 2 = v194 := (g230.cell ta167 (by decide +kernel)).trans c219
          have c245 : I227 a197 0 = v221 := (g230.cell ta197 (by decide +kernel)).trans c222
          have c246 : I227 a197 2 = v224 := (g230.cell ta197 (by decide +kernel)).trans c225
          have hO247 : FrO 2 a8 T I0 I227 := hO220.st g230 (by decide +kernel)
          refine tr_aload_n dX10_alp_109 rfl ?_
          refine tr_aload_n dX10_alp_110 rfl ?_
          refine tr_getR dX10_alp_111 fl10_16 (kR1 hS232.1 ta0) d151 ?_
          refine q_getI dX10_alp_114 fl10_106 (kR2 hS232.1 ta8) c234 ?_
          refine q_callVi hE (M' := mX10_answered) (as := [_]) dX10_alp_117 lk10_109 inX10_answered seX10_answered myX10_answered (by decide) ⟨by decide, by decide⟩ rfl (kR1 hS232.1 ta0) (Nat.le_of_ble_eq_true rfl) rfl rfl (by decide) (by decide) (fk_X10_answered hS232.1  ta0) ?_
          rintro v253 cn' K' N' I248 R249 L250 ⟨rfl, rfl, rfl, rfl, rfl, g251, p254, p255, -⟩
          have hS256 := hS232.tr g251 (by decide +kernel) (by decide +kernel)
          have c257 : I248 a59 15 = v89 := (g251.cell ta59 (by decide +kernel)).trans c233
          have c258 : I248 a8 5 = v91 := (g251.cell ta8 (by decide +kernel)).trans c234
          have c259 : I248 a8 0 = v94 := (g251.cell ta8 (by decide +kernel)).trans c235
          have c260 : I248 a8 11 = v97 := (g251.cell ta8 (by decide +kernel)).trans c236
          have c261 : I248 a0 1 = v100 := (g251.cell ta0 (by decide +kernel)).trans c237
          have c262 : I248 a0 15 = v89 := (g251.cell ta0 (by decide +kernel)).trans c238
          have c263 : I248 a59 16 = v126 := (g251.cell ta59 (by decide +kernel)).trans c239
          have c264 : I248 a0 16 = v126 := (g251.cell ta0 (by decide +kernel)).trans c240
          have c265 : I248 a0 5 = v152 := (g251.cell ta0 (by decide +kernel)).trans c241
          have c266 : I248 a167 0 = v189 := (g251.cell ta167 (by decide +kernel)).trans c242
          have c267 : I248 a167 1 = v191 := (g251.cell ta167 (by decide +kernel)).trans c243
          have c268 : I248 a167 2 = v194 := (g251.cell ta167 (by decide +kernel)).trans c244
          have c269 : I248 a197 0 = v221 := (g251.cell ta197 (by decide +kernel)).trans c245
          have c270 : I248 a197 2 = v224 := (g251.cell ta197 (by decide +kernel)).trans c246
          have hO271 : FrO 2 a8 T I0 I248 := hO247.st g251 (by decide +kernel)
          obtain ⟨v272, c273⟩ : ∃ v, I248 a0 17 = v := ⟨_, rfl⟩
          rw [c273] at p255
          exact tr_iret hZ dX10_alp_120 rfl (by decide) (by decide) ⟨v253, rfl, rfl, rfl, rfl, hS256, hL78, (fun dr hd => (Option.some.inj (d9.symm.trans hd)) ▸ hO271), (Or.inr (Or.inl ⟨(by first | done | with_reducible assumption | omega), (by (try rw [c2]); first | done | with_reducible assumption | omega), (by first | done | with_reducible assumption | omega), (by first | done | with_reducible assumption | exact om_9fa72578 p82 p254), (by (try rw [c261]); first | done | with_reducible assumption | omega), (by (try rw [c262]); first | done | with_reducible assumption | omega), (by (try rw [c273]); first | done | with_reducible assumption | omega), (by (try rw [c265]); first | done | with_reducible assumption | omega), (fun q0 z0 => by obtain rfl := Option.some.inj ((((hS256.rcell ta0 (by decide +kernel)).trans d168)).symm.trans z0); (try rw [c266]); first | done | with_reducible assumption | omega), (fun q0 z0 => by obtain rfl := Option.some.inj ((((hS256.rcell ta0 (by decide +kernel)).trans d168)).symm.trans z0); (try rw [c267]); first | done | with_reducible assumption | omega), (fun q0 z0 => by obtain rfl := Option.some.inj ((((hS256.rcell ta0 (by decide +kernel)).trans d168)).symm.trans z0); (try rw [c268]); first | done | with_reducible assumption | omega), (fun q0 z0 => by obtain rfl := Option.some.inj ((((hS256.rcell ta0 (by decide +kernel)).trans d198)).symm.trans z0); (try rw [c269]); first | done | with_reducible assumption | omega), (fun q0 z0 => by obtain rfl := Option.some.inj ((((hS256.rcell ta0 (by decide +kernel)).trans d198)).symm.trans z0); (try rw [c270]); first | done | with_reducible assumption | omega), (fun q0 z0 => by obtain rfl := Option.some.inj ((d151).symm.trans z0); (try rw [c259]); first | done | with_reducible assumption | omega), (fun q0 z0 => by obtain rfl := Option.some.inj ((d151).symm.trans z0); (try rw [c260]); first | done | with_reducible assumption | omega), ⟨(d151).trans (d9).symm, (e149).trans (d11).symm⟩, trivial⟩)), trivial⟩
        · skip
          exfalso; exact om_3624102b p79 h141
      · skip
        obtain ⟨v274, c275⟩ : ∃ v, I61 a59 15 = v := ⟨_, rfl⟩
        rw [c275] at p87
        obtain ⟨v276, c277⟩ : ∃ v, I61 a59 16 = v := ⟨_, rfl⟩
        rw [c277] at p88
        refine tr_istore_n dX10_alp_30 (by decide) (by decide) ?_
        refine tr_aload_n dX10_alp_31 rfl ?_
        refine q_iconst dX10_alp_32 (by decide) ?_
        intro v278 h279
        refine q_putI dX10_alp_33 fl10_71 (kR1 hS70.1 ta0) (Or.inl rfl) hS70 ta0 (by show (0 : Int) ≤ v278.toInt ∧ v278.toInt ≤ (900 : Int); exact om_d84473bb h279) rfl (by decide +kernel) ?_
        intro I280 hS281 e282 f283
        have c284 : I280 a0 15 = v4 := (f283 _ _ (fun q => absurd q.2 (by decide))).trans c72
        have c285 : I280 a0 16 = v6 := (f283 _ _ (fun q => absurd q.2 (by decide))).trans c73
        have c286 : I280 a0 5 = v12 := (f283 _ _ (fun q => absurd q.2 (by decide))).trans c74
        have c287 : I280 a59 15 = v274 := (f283 _ _ (fun q => absurd q.2 (by decide))).trans c275
        have c288 : I280 a59 16 = v276 := (f283 _ _ (fun q => absurd q.2 (by decide))).trans c277
        have hO289 : FrO 2 a8 T I0 I280 := hO77.put f283 ta0 (Or.inl (by decide))
        refine tr_aload_n dX10_alp_36 rfl ?_
        refine tr_aload_n dX10_alp_37 rfl ?_
        refine tr_getR dX10_alp_38 fl10_28 (kR1 hS281.1 ta0) ((hS281.rcell ta0 (by decide +kernel)).trans d60) ?_
        refine q_getI dX10_alp_41 fl10_87 (kR7 hS281.1 ta59) c287 ?_
        refine q_putI dX10_alp_44 fl10_90 (kR1 hS281.1 ta0) (Or.inl rfl) hS281 ta0 (iokF rfl) rfl (by decide +kernel) ?_
        intro I290 hS291 e292 f293
        have c294 : I290 a0 16 = v6 := (f293 _ _ (fun q => absurd q.2 (by decide))).trans c285
        have c295 : I290 a0 5 = v12 := (f293 _ _ (fun q => absurd q.2 (by decide))).trans c286
        have c296 : I290 a59 15 = v274 := (f293 _ _ (fun q => by have z := ta59; rw [q.1, ta0] at z; exact absurd z (by decide))).trans c287
        have c297 : I290 a59 16 = v276 := (f293 _ _ (fun q => absurd q.2 (by decide))).trans c288
        have c298 : I290 a0 1 = v278 := (f293 _ _ (fun q => absurd q.2 (by decide))).trans e282
        have hO299 : FrO 2 a8 T I0 I290 := hO289.put f293 ta0 (Or.inl (by decide))
        refine tr_aload_n dX10_alp_47 rfl ?_
        refine tr_aload_n dX10_alp_48 rfl ?_
        refine tr_getR dX10_alp_49 fl10_28 (kR1 hS291.1 ta0) ((hS291.rcell ta0 (by decide +kernel)).trans d60) ?_
        refine q_getI dX10_alp_52 fl10_91 (kR7 hS291.1 ta59) c297 ?_
        refine q_putI dX10_alp_55 fl10_94 (kR1 hS291.1 ta0) (Or.inl rfl) hS291 ta0 (iokF rfl) rfl (by decide +kernel) ?_
        intro I300 hS301 e302 f303
        have c304 : I300 a0 5 = v12 := (f303 _ _ (fun q => absurd q.2 (by decide))).trans c295
        have c305 : I300 a59 15 = v274 := (f303 _ _ (fun q => absurd q.2 (by decide))).trans c296
        have c306 : I300 a59 16 = v276 := (f303 _ _ (fun q => by have z := ta59; rw [q.1, ta0] at z; exact absurd z (by decide))).trans c297
        have c307 : I300 a0 1 = v278 := (f303 _ _ (fun q => absurd q.2 (by decide))).trans c298
        have c308 : I300 a0 15 = v274 := (f303 _ _ (fun q => absurd q.2 (by decide))).trans e292
        have hO309 : FrO 2 a8 T I0 I300 := hO299.put f303 ta0 (Or.inl (by decide))
        refine tr_iload_n dX10_alp_58 rfl ?_
        refine q_if_ne 68 dX10_alp_59 (by decide) (fun h310 => ?_) (fun h310 => ?_)
        · skip
          exfalso; exact om_3a97d4a5 p85 h310
        · skip
          refine tr_aload_n dX10_alp_62 rfl ?_
          refine q_iconst dX10_alp_63 (by decide) ?_
          intro v311 h312
          refine q_callVi hE (M' := mX10_refused) (as := [_]) dX10_alp_64 lk10_79 inX10_refused seX10_refused myX10_refused (by decide) ⟨by decide, by decide⟩ rfl (kR1 hS301.1 ta0) (Nat.le_of_ble_eq_true rfl) rfl rfl (by decide) (by decide) (fk_X10_refused hS301.1  ta0) ?_
          rintro v318 cn' K' N' I313 R314 L315 ⟨rfl, rfl, rfl, rfl, rfl, g316, p319, p320, -⟩
          have hS321 := hS301.tr g316 (by decide +kernel) (by decide +kernel)
          have c322 : I313 a0 5 = v12 := (g316.cell ta0 (by decide +kernel)).trans c304
          have c323 : I313 a59 15 = v274 := (g316.cell ta59 (by decide +kernel)).trans c305
          have c324 : I313 a59 16 = v276 := (g316.cell ta59 (by decide +kernel)).trans c306
          have c325 : I313 a0 1 = v278 := (g316.cell ta0 (by decide +kernel)).trans c307
          have c326 : I313 a0 15 = v274 := (g316.cell ta0 (by decide +kernel)).trans c308
          have c327 : I313 a0 16 = v276 := (g316.cell ta0 (by decide +kernel)).trans e302
          have hO328 : FrO 2 a8 T I0 I313 := hO309.st g316 (by decide +kernel)
          obtain ⟨v329, c330⟩ : ∃ v, I313 a0 17 = v := ⟨_, rfl⟩
          rw [c330] at p320
          obtain ⟨a331, d332, ta331⟩ := rf1_6 hW0 ta0
          obtain ⟨v333, c334⟩ : ∃ v, I313 a331 0 = v := ⟨_, rfl⟩
          obtain ⟨v335, c336⟩ : ∃ v, I313 a331 1 = v := ⟨_, rfl⟩
          have b337 := iv8_1 hS321.1 ta331 c336
          obtain ⟨v338, c339⟩ : ∃ v, I313 a331 2 = v := ⟨_, rfl⟩
          have b340 := iv8_2 hS321.1 ta331 c339
          obtain ⟨a341, d342, ta341⟩ := rf1_7 hW0 ta0
          obtain ⟨v343, c344⟩ : ∃ v, I313 a341 0 = v := ⟨_, rfl⟩
          have b345 := iv11_0 hS321.1 ta341 c344
          obtain ⟨v346, c347⟩ : ∃ v, I313 a341 2 = v := ⟨_, rfl⟩
          have b348 := iv11_2 hS321.1 ta341 c347
          obtain ⟨v349, c350⟩ : ∃ v, I313 a10 0 = v := ⟨_, rfl⟩
          have b351 := iv2_0 hS321.1 ta10 c350
          obtain ⟨v352, c353⟩ : ∃ v, I313 a10 11 = v := ⟨_, rfl⟩
          have b354 := iv2_11 hS321.1 ta10 c353
          exact tr_iret hZ dX10_alp_67 rfl (by decide) (by decide) ⟨v318, rfl, rfl, rfl, rfl, hS321, hL78, (fun dr hd => (Option.some.inj (d9.symm.trans hd)) ▸ hO328), (Or.inr (Or.inr (⟨(by first | done | with_reducible assumption | omega), (by (try rw [c2]); first | done | with_reducible assumption | omega), (by first | done | with_reducible assumption | omega), (by first | done | with_reducible assumption | omega), (by (try rw [c325]); first | done | with_reducible assumption | omega), (by (try rw [c326]); first | done | with_reducible assumption | omega), (by (try rw [c327]); first | done | with_reducible assumption | omega), (by (try rw [c330]); first | done | with_reducible assumption | exact om_7c28df22 h312 p320), ⟨(d76).trans (d11).symm, (d75).trans (d9).symm⟩, ⟨fun a j h => by rcases h with h | h | h; exact ((g316.cell h (wm_no (by decide +kernel))).trans ((f303 _ _ (fun q => by have z := h; rw [q.1, ta0] at z; exact absurd z (by decide))).trans ((f293 _ _ (fun q => by have z := h; rw [q.1, ta0] at z; exact absurd z (by decide))).trans ((f283 _ _ (fun q => by have z := h; rw [q.1, ta0] at z; exact absurd z (by decide))).trans (g64.cell h (wm_no (by decide +kernel))))))); exact ((g316.cell h (wm_no (by decide +kernel))).trans ((f303 _ _ (fun q => by have z := h; rw [q.1, ta0] at z; exact absurd z (by decide))).trans ((f293 _ _ (fun q => by have z := h; rw [q.1, ta0] at z; exact absurd z (by decide))).trans ((f283 _ _ (fun q => by have z := h; rw [q.1, ta0] at z; exact absurd z (by decide))).trans (g64.cell h (wm_no (by decide +kernel))))))); exact ((g316.cell h (wm_no (by decide +kernel))).trans ((f303 _ _ (fun q => by have z := h; rw [q.1, ta0] at z; exact absurd z (by decide))).trans ((f293 _ _ (fun q => by have z := h; rw [q.1, ta0] at z; exact absurd z (by decide))).trans ((f283 _ _ (fun q => by have z := h; rw [q.1, ta0] at z; exact absurd z (by decide))).trans (g64.cell h (wm_no (by decide +kernel))))))), (c322).trans (c13).symm⟩, trivial⟩))), trivial⟩
    · skip
      refine tr_aload_n dX10_alp_12 rfl ?_
      refine q_iconst dX10_alp_13 (by decide) ?_
      intro v355 h356
      refine q_callVi hE (M' := mX10_refused) (as := [_]) dX10_alp_14 lk10_79 inX10_refused seX10_refused myX10_refused (by decide) ⟨by decide, by decide⟩ rfl (kR1 hS0.1 ta0) (Nat.le_of_ble_eq_true rfl) rfl rfl (by decide) (by decide) (fk_X10_refused hS0.1  ta0) ?_
      rintro v362 cn' K' N' I357 R358 L359 ⟨rfl, rfl, rfl, rfl, rfl, g360, p363, p364, -⟩
      have hS365 := hS0.tr g360 (by decide +kernel) (by decide +kernel)
      have c366 : I357 a0 1 = v1 := (g360.cell ta0 (by decide +kernel)).trans c2
      have c367 : I357 a0 15 = v4 := (g360.cell ta0 (by decide +kernel)).trans c5
      have c368 : I357 a0 16 = v6 := (g360.cell ta0 (by decide +kernel)).trans c7
      have c369 : I357 a0 5 = v12 := (g360.cell ta0 (by decide +kernel)).trans c13
      have hO370 : FrO 2 a8 T I0 I357 := hO0.st g360 (by decide +kernel)
      obtain ⟨v371, c372⟩ : ∃ v, I357 a0 17 = v := ⟨_, rfl⟩
      rw [c372] at p364
      obtain ⟨a373, d374, ta373⟩ := rf1_6 hW0 ta0
      obtain ⟨v375, c376⟩ : ∃ v, I357 a373 0 = v := ⟨_, rfl⟩
      obtain ⟨v377, c378⟩ : ∃ v, I357 a373 1 = v := ⟨_, rfl⟩
      have b379 := iv8_1 hS365.1 ta373 c378
      obtain ⟨v380, c381⟩ : ∃ v, I357 a373 2 = v := ⟨_, rfl⟩
      have b382 := iv8_2 hS365.1 ta373 c381
      obtain ⟨a383, d384, ta383⟩ := rf1_7 hW0 ta0
      obtain ⟨v385, c386⟩ : ∃ v, I357 a383 0 = v := ⟨_, rfl⟩
      have b387 := iv11_0 hS365.1 ta383 c386
      obtain ⟨v388, c389⟩ : ∃ v, I357 a383 2 = v := ⟨_, rfl⟩
      have b390 := iv11_2 hS365.1 ta383 c389
      obtain ⟨v391, c392⟩ : ∃ v, I357 a10 0 = v := ⟨_, rfl⟩
      have b393 := iv2_0 hS365.1 ta10 c392
      obtain ⟨v394, c395⟩ : ∃ v, I357 a10 11 = v := ⟨_, rfl⟩
      have b396 := iv2_11 hS365.1 ta10 c395
      exact tr_iret hZ dX10_alp_17 rfl (by decide) (by decide) ⟨v362, rfl, rfl, rfl, rfl, hS365, hL0, (fun dr hd => (Option.some.inj (d9.symm.trans hd)) ▸ hO370), (Or.inl ⟨(by (try rw [c2]); first | done | with_reducible assumption | exact om_9e558c0d h58), (by first | done | with_reducible assumption | omega), (by (try rw [c366]); (try rw [c2]); first | done | with_reducible assumption | omega), (by (try rw [c367]); (try rw [c5]); first | done | with_reducible assumption | omega), (by (try rw [c368]); (try rw [c7]); first | done | with_reducible assumption | omega), (by (try rw [c372]); first | done | with_reducible assumption | exact om_85972af0 h356 p364), ⟨(d11).trans (d11).symm, (d9).trans (d9).symm⟩, ⟨fun a j h => by rcases h with h | h | h; exact (g360.cell h (wm_no (by decide +kernel))); exact (g360.cell h (wm_no (by decide +kernel))); exact (g360.cell h (wm_no (by decide +kernel))), (c369).trans (c13).symm⟩, trivial⟩), trivial⟩
