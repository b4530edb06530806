def wik_X10_alp : List Nat := [65, 69, 73, 75, 79, 80, 81, 128, 129, 131, 133, 135, 137, 139, 141, 192, 193, 194, 195, 256, 257, 258, 259, 260, 261, 320, 321, 322, 323, 384, 449, 450, 451, 452, 454, 455, 456, 457, 459, 460, 463, 464, 512, 513, 514, 704, 706, 1215, 1343, 1599]
def wrk_X10_alp : List Nat := [66, 67, 458]
def wlk_X10_alp : List Nat := [453, 1663, 1727]
set_option maxHeartbeats 4000000 in
theorem fk_X10_alp {l : Launch} {T : Nat → Nat} {cn : Nat} {K N : Nat → Nat} {I0 : cz_I} {R0 : cz_R} {L0 : cz_L} {d : Int} (hW0 : Wf T cn K N I0 R0 d) (gT : Nat → Int32) {a0 : Nat} (ta0 : T a0 = 1) {x1 : Int32} (hY : ∀ t, R0 a0 0 = some t → ∀ k : Nat, k < 900 → I0 t k = gT k) (hU : ∀ r, R0 a0 4 = some r → R0 r 0 = R0 a0 0) : ConE l mX10_alp [.ref a0, .int x1] cn K N I0 R0 L0 (ca_i (fun v cn' K' N' I' R' L' => cn = cn' ∧ K = K' ∧ N = N' ∧ St T cn K N d wik_X10_alp wrk_X10_alp I0 R0 I' R' ∧ LgS T wlk_X10_alp L0 L' ∧ (∀ dr, R0 a0 3 = some dr → FrK R0 dr (fun _ => True) T I0 I') ∧ (∀ dr, R0 a0 3 = some dr → FrO 2 dr T I0 I') ∧ ((((x1.toInt < 0 ∨ x1.toInt > (I0 a0 1).toInt)) ∧ (v.toInt = -1) ∧ ((I' a0 1).toInt = (I0 a0 1).toInt) ∧ ((I' a0 15).toInt = (I0 a0 15).toInt) ∧ ((I' a0 16).toInt = (I0 a0 16).toInt) ∧ ((I' a0 17).toInt = 2) ∧ (R' a0 2 = R0 a0 2 ∧ R' a0 3 = R0 a0 3) ∧ ((∀ a j, T a = 8 ∨ T a = 10 ∨ T a = 11 → I' a j = I0 a j) ∧ I' a0 5 = I0 a0 5) ∧ ((I' a0 9).toInt = (I0 a0 9).toInt) ∧ ((I' a0 11).toInt = (I0 a0 11).toInt) ∧ True) ∨ ((0 ≤ x1.toInt) ∧ (x1.toInt ≤ (I0 a0 1).toInt) ∧ ((lsF (gT, x1.toInt) 901 0 Q00) = 0) ∧ (v.toInt = (lsC (gT, x1.toInt) 901 0 Q00)) ∧ ((I' a0 1).toInt = 0) ∧ ((I' a0 15).toInt = 0) ∧ ((I' a0 17).toInt = 0) ∧ ((I' a0 5).toInt = 1) ∧ (∀ b1, R' a0 6 = some b1 → (I' b1 0).toInt = 0) ∧ (∀ b1, R' a0 6 = some b1 → (I' b1 1).toInt = 0) ∧ (∀ b1, R' a0 6 = some b1 → (I' b1 2).toInt = 0) ∧ (∀ b1, R' a0 7 = some b1 → (I' b1 0).toInt = 0) ∧ (∀ b1, R' a0 7 = some b1 → (I' b1 2).toInt = 0) ∧ (∀ b1, R' a0 2 = some b1 → (I' b1 0).toInt = (lsA0 (gT, x1.toInt) 901 0 Q00)) ∧ (∀ b1, R' a0 2 = some b1 → (I' b1 11).toInt = (lsA5 (gT, x1.toInt) 901 0 Q00)) ∧ (∀ b1, R' a0 2 = some b1 → (I' b1 3).toInt = (lsA2 (gT, x1.toInt) 901 0 Q00)) ∧ (∀ b1, R' a0 2 = some b1 → (I' b1 1).toInt = (lsA1 (gT, x1.toInt) 901 0 Q00)) ∧ (∀ b1, R' a0 2 = some b1 → (I' b1 5).toInt = (lsA3 (gT, x1.toInt) 901 0 Q00)) ∧ (∀ b1, R' a0 2 = some b1 → (I' b1 9).toInt = (lsA4 (gT, x1.toInt) 901 0 Q00)) ∧ (∀ b1, R' a0 2 = some b1 → (I' b1 13).toInt = (lsA6 (gT, x1.toInt) 901 0 Q00)) ∧ (R' a0 2 = R0 a0 3 ∧ R' a0 3 = R0 a0 2) ∧ (∀ dr, R0 a0 3 = some dr → AlT R0 dr → AlC I' R0 dr (cnt (gT, x1.toInt)) (lsE (gT, x1.toInt) 901 0 Q00 E00)) ∧ ((I' a0 9).toInt = 0) ∧ ((I' a0 11).toInt = 0) ∧ True) ∨ ((0 ≤ x1.toInt) ∧ (x1.toInt ≤ (I0 a0 1).toInt) ∧ ((lsF (gT, x1.toInt) 901 0 Q00) ≠ 0) ∧ (v.toInt = -1) ∧ ((I' a0 1).toInt = 0) ∧ ((I' a0 15).toInt = (lsF (gT, x1.toInt) 901 0 Q00)) ∧ ((I' a0 16).toInt = (lsP (gT, x1.toInt) 901 0 Q00)) ∧ ((I' a0 17).toInt = 4) ∧ (R' a0 2 = R0 a0 2 ∧ R' a0 3 = R0 a0 3) ∧ ((∀ a j, T a = 8 ∨ T a = 10 ∨ T a = 11 → I' a j = I0 a j) ∧ I' a0 5 = I0 a0 5) ∧ ((I' a0 9).toInt = (I0 a0 9).toInt) ∧ ((I' a0 11).toInt = (I0 a0 11).toInt) ∧ True)) ∧ True)) := by
  refine ConE.of (by decide +kernel) rfl (Nat.le_of_ble_eq_true rfl) rfl (fun X hX hZ hE => ?_)
  subst hX
  have hS0 : St T cn K N d wik_X10_alp wrk_X10_alp I0 R0 I0 R0 := St.rf0 hW0
  have hL0 : LgS T wlk_X10_alp L0 L0 := LgS.rf0
  obtain ⟨v1, c2⟩ : ∃ v, I0 a0 1 = v := ⟨_, rfl⟩
  have b3 := iv1_1 hS0.1 ta0 c2
  obtain ⟨v4, c5⟩ : ∃ v, I0 a0 15 = v := ⟨_, rfl⟩
  obtain ⟨v6, c7⟩ : ∃ v, I0 a0 16 = v := ⟨_, rfl⟩
  obtain ⟨a8, d9, ta8⟩ := rf1_3 hS0.1 ta0
  have hO0 : FrO 2 a8 T I0 I0 := FrO.rf
  obtain ⟨v10, c11⟩ : ∃ v, I0 a0 11 = v := ⟨_, rfl⟩
  have b12 := iv1_11 hS0.1 ta0 c11
  obtain ⟨v13, c14⟩ : ∃ v, I0 a0 9 = v := ⟨_, rfl⟩
  have b15 := iv1_9 hS0.1 ta0 c14
  obtain ⟨a16, d17, ta16⟩ := rf1_2 hS0.1 ta0
  obtain ⟨v18, c19⟩ : ∃ v, I0 a0 5 = v := ⟨_, rfl⟩
  have b20 := iv1_5 hS0.1 ta0 c19
  refine tr_iload_n dX10_alp_0 rfl ?_
  refine q_if_lt 12 dX10_alp_1 (by decide) (fun h21 => ?_) (fun h21 => ?_)
  · skip
    refine tr_aload_n dX10_alp_12 rfl ?_
    refine q_iconst dX10_alp_13 (by decide) ?_
    intro v22 h23
    refine q_callVi hE (M' := mX10_refused) (as := [_]) dX10_alp_14 lk10_79 inX10_refused seX10_refused myX10_refused (by decide) ⟨by decide, by decide⟩ rfl (kR1 hS0.1 ta0) (Nat.le_of_ble_eq_true rfl) rfl rfl (by decide) (by decide) (fk_X10_refused hS0.1  ta0) ?_
    rintro v29 cn' K' N' I24 R25 L26 ⟨rfl, rfl, rfl, rfl, rfl, g27, p30, p31, -⟩
    have hS32 := hS0.tr g27 (by decide +kernel) (by decide +kernel)
    have c33 : I24 a0 1 = v1 := (g27.cell ta0 (by decide +kernel)).trans c2
    have c34 : I24 a0 15 = v4 := (g27.cell ta0 (by decide +kernel)).trans c5
    have c35 : I24 a0 16 = v6 := (g27.cell ta0 (by decide +kernel)).trans c7
    have c36 : I24 a0 11 = v10 := (g27.cell ta0 (by decide +kernel)).trans c11
    have c37 : I24 a0 9 = v13 := (g27.cell ta0 (by decide +kernel)).trans c14
    have c38 : I24 a0 5 = v18 := (g27.cell ta0 (by decide +kernel)).trans c19
    have hO39 : FrO 2 a8 T I0 I24 := hO0.st g27 (by decide +kernel)
    obtain ⟨v40, c41⟩ : ∃ v, I24 a0 17 = v := ⟨_, rfl⟩
    rw [c41] at p31
    obtain ⟨a42, d43, ta42⟩ := rf1_6 hW0 ta0
    obtain ⟨v44, c45⟩ : ∃ v, I24 a42 0 = v := ⟨_, rfl⟩
    obtain ⟨v46, c47⟩ : ∃ v, I24 a42 1 = v := ⟨_, rfl⟩
    have b48 := iv8_1 hS32.1 ta42 c47
    obtain ⟨v49, c50⟩ : ∃ v, I24 a42 2 = v := ⟨_, rfl⟩
    have b51 := iv8_2 hS32.1 ta42 c50
    obtain ⟨a52, d53, ta52⟩ := rf1_7 hW0 ta0
    obtain ⟨v54, c55⟩ : ∃ v, I24 a52 0 = v := ⟨_, rfl⟩
    have b56 := iv11_0 hS32.1 ta52 c55
    obtain ⟨v57, c58⟩ : ∃ v, I24 a52 2 = v := ⟨_, rfl⟩
    have b59 := iv11_2 hS32.1 ta52 c58
    obtain ⟨v60, c61⟩ : ∃ v, I24 a16 0 = v := ⟨_, rfl⟩
    have b62 := iv2_0 hS32.1 ta16 c61
    obtain ⟨v63, c64⟩ : ∃ v, I24 a16 11 = v := ⟨_, rfl⟩
    have b65 := iv2_11 hS32.1 ta16 c64
    obtain ⟨v66, c67⟩ : ∃ v, I24 a16 3 = v := ⟨_, rfl⟩
    have b68 := iv2_3 hS32.1 ta16 c67
    obtain ⟨v69, c70⟩ : ∃ v, I24 a16 1 = v := ⟨_, rfl⟩
    have b71 := iv2_1 hS32.1 ta16 c70
    obtain ⟨v72, c73⟩ : ∃ v, I24 a16 5 = v := ⟨_, rfl⟩
    have b74 := iv2_5 hS32.1 ta16 c73
    obtain ⟨v75, c76⟩ : ∃ v, I24 a16 9 = v := ⟨_, rfl⟩
    have b77 := iv2_9 hS32.1 ta16 c76
    obtain ⟨v78, c79⟩ : ∃ v, I24 a16 13 = v := ⟨_, rfl⟩
    have b80 := iv2_13 hS32.1 ta16 c79
    exact tr_iret hZ dX10_alp_17 rfl (by decide) (by decide) ⟨v29, rfl, rfl, rfl, rfl, hS32, hL0, (fun dr hd => by obtain rfl := Option.some.inj (d9.symm.trans hd); exact ((FrK.rf (R := R0) (al := a8) (W := fun _ => True) (T := T)).st g27 (by decide +kernel))), (fun dr hd => (Option.some.inj (d9.symm.trans hd)) ▸ hO39), (Or.inl ⟨(by (try rw [c2]); first | done | with_reducible assumption | omega), (by first | done | with_reducible assumption | omega), (by (try rw [c33]); (try rw [c2]); first | done | with_reducible assumption | omega), (by (try rw [c34]); (try rw [c5]); first | done | with_reducible assumption | omega), (by (try rw [c35]); (try rw [c7]); first | done | with_reducible assumption | omega), (by (try rw [c41]); first | done | with_reducible assumption | omega), ⟨(d17).trans (d17).symm, (d9).trans (d9).symm⟩, ⟨fun a j h => by rcases h with h | h | h; exact (g27.cell h (wm_no (by decide +kernel))); exact (g27.cell h (wm_no (by decide +kernel))); exact (g27.cell h (wm_no (by decide +kernel))), (c38).trans (c19).symm⟩, (by rw [c37, c14]; first | done | omega), (by rw [c36, c11]; first | done | omega), trivial⟩), trivial⟩
  · skip
    refine tr_iload_n dX10_alp_4 rfl ?_
    refine tr_aload_n dX10_alp_5 rfl ?_
    refine q_getI dX10_alp_6 fl10_71 (kR1 hS0.1 ta0) c2 ?_
    refine q_icmp_le 18 dX10_alp_9 (by decide) (fun h81 => ?_) (fun h81 => ?_)
    · skip
      refine tr_aload_n dX10_alp_18 rfl ?_
      obtain ⟨a82, d83, ta82⟩ := rf1_4 hW0 ta0
      refine tr_getR dX10_alp_19 fl10_28 (kR1 hS0.1 ta0) d83 ?_
      refine tr_aload_n dX10_alp_22 rfl ?_
      refine tr_getR dX10_alp_23 fl10_20 (kR1 hS0.1 ta0) d9 ?_
      refine tr_iload_n dX10_alp_26 rfl ?_
      refine q_callVi hE (M' := mX7_readAll) (as := [_, _]) dX10_alp_27 lk10_83 inX7_readAll seX7_readAll myX7_readAll (by decide) ⟨by decide, by decide⟩ rfl (kR7 hS0.1 ta82) (Nat.le_of_ble_eq_true rfl) rfl rfl (by decide) (by decide) (fk_X7_readAll hS0.1 ((gT, x1.toInt)) ta82 ta8 (by omega) (Tx.ec hY hU d83 (by omega) (by omega)) (by first | done | with_reducible assumption | omega)) ?_
      rintro v89 cn' K' N' I84 R85 L86 ⟨rfl, rfl, rfl, g87, gl88, h90, rp91, rp92, dj93, -⟩
      have hS94 := hS0.tr g87 (by decide +kernel) (by decide +kernel)
      have c95 : I84 a0 1 = v1 := (g87.cell ta0 (by decide +kernel)).trans c2
      have c96 : I84 a0 15 = v4 := (g87.cell ta0 (by decide +kernel)).trans c5
      have c97 : I84 a0 16 = v6 := (g87.cell ta0 (by decide +kernel)).trans c7
      have c98 : I84 a0 11 = v10 := (g87.cell ta0 (by decide +kernel)).trans c11
      have c99 : I84 a0 9 = v13 := (g87.cell ta0 (by decide +kernel)).trans c14
      have c100 : I84 a0 5 = v18 := (g87.cell ta0 (by decide +kernel)).trans c19
      have d101 : R85 a0 3 = some a8 := (g87.rcell ta0 (by decide +kernel)).trans d9
      have d102 : R85 a0 2 = some a16 := (g87.rcell ta0 (by decide +kernel)).trans d17
      have hO103 : FrO 2 a8 T I0 I84 := hO0.tr rp92
      have hL104 := hL0.tr gl88 (by decide +kernel)
      rcases dj93 with ⟨p105, p106, p107, p108, p109, p110, p111, p112, p113, p114, p115, p116, rp117, -⟩ | ⟨p118, p119, p120, p121, -⟩
      · skip
        obtain ⟨v122, c123⟩ : ∃ v, I84 a82 15 = v := ⟨_, rfl⟩
        rw [c123] at p107
        obtain ⟨v124, c125⟩ : ∃ v, I84 a8 5 = v := ⟨_, rfl⟩
        have b126 := iv2_5 hS94.1 ta8 c125
        rw [c125] at p108
        obtain ⟨v127, c128⟩ : ∃ v, I84 a8 0 = v := ⟨_, rfl⟩
        have b129 := iv2_0 hS94.1 ta8 c128
        rw [c128] at p109
        obtain ⟨v130, c131⟩ : ∃ v, I84 a8 11 = v := ⟨_, rfl⟩
        have b132 := iv2_11 hS94.1 ta8 c131
        rw [c131] at p110
        obtain ⟨v133, c134⟩ : ∃ v, I84 a8 3 = v := ⟨_, rfl⟩
        have b135 := iv2_3 hS94.1 ta8 c134
        rw [c134] at p111
        obtain ⟨v136, c137⟩ : ∃ v, I84 a8 1 = v := ⟨_, rfl⟩
        have b138 := iv2_1 hS94.1 ta8 c137
        rw [c137] at p112
        rw [c125] at p113
        obtain ⟨v139, c140⟩ : ∃ v, I84 a8 9 = v := ⟨_, rfl⟩
        have b141 := iv2_9 hS94.1 ta8 c140
        rw [c140] at p114
        obtain ⟨v142, c143⟩ : ∃ v, I84 a8 13 = v := ⟨_, rfl⟩
        have b144 := iv2_13 hS94.1 ta8 c143
        rw [c143] at p115
        obtain ⟨v145, c146⟩ : ∃ v, I84 a8 7 = v := ⟨_, rfl⟩
        rw [c146] at p116
        refine tr_istore_n dX10_alp_30 (by decide) (by decide) ?_
        refine tr_aload_n dX10_alp_31 rfl ?_
        refine q_iconst dX10_alp_32 (by decide) ?_
        intro v147 h148
        refine q_putI dX10_alp_33 fl10_71 (kR1 hS94.1 ta0) (Or.inl rfl) hS94 ta0 (by show (0 : Int) ≤ v147.toInt ∧ v147.toInt ≤ (900 : Int); omega) rfl (by decide +kernel) ?_
        intro I149 hS150 e151 f152
        have c153 : I149 a0 15 = v4 := (f152 _ _ (fun q => absurd q.2 (by decide))).trans c96
        have c154 : I149 a0 16 = v6 := (f152 _ _ (fun q => absurd q.2 (by decide))).trans c97
        have c155 : I149 a0 11 = v10 := (f152 _ _ (fun q => absurd q.2 (by decide))).trans c98
        have c156 : I149 a0 9 = v13 := (f152 _ _ (fun q => absurd q.2 (by decide))).trans c99
        have c157 : I149 a0 5 = v18 := (f152 _ _ (fun q => absurd q.2 (by decide))).trans c100
        have c158 : I149 a82 15 = v122 := (f152 _ _ (fun q => absurd q.2 (by decide))).trans c123
        have c159 : I149 a8 5 = v124 := (f152 _ _ (fun q => absurd q.2 (by decide))).trans c125
        have c160 : I149 a8 0 = v127 := (f152 _ _ (fun q => absurd q.2 (by decide))).trans c128
        have c161 : I149 a8 11 = v130 := (f152 _ _ (fun q => absurd q.2 (by decide))).trans c131
        have c162 : I149 a8 3 = v133 := (f152 _ _ (fun q => absurd q.2 (by decide))).trans c134
        have c163 : I149 a8 1 = v136 := (f152 _ _ (fun q => by have z := ta8; rw [q.1, ta0] at z; exact absurd z (by decide))).trans c137
        have c164 : I149 a8 9 = v139 := (f152 _ _ (fun q => absurd q.2 (by decide))).trans c140
        have c165 : I149 a8 13 = v142 := (f152 _ _ (fun q => absurd q.2 (by decide))).trans c143
        have c166 : I149 a8 7 = v145 := (f152 _ _ (fun q => absurd q.2 (by decide))).trans c146
        have hO167 : FrO 2 a8 T I0 I149 := hO103.put f152 ta0 (Or.inl (by decide))
        refine tr_aload_n dX10_alp_36 rfl ?_
        refine tr_aload_n dX10_alp_37 rfl ?_
        refine tr_getR dX10_alp_38 fl10_28 (kR1 hS150.1 ta0) ((hS150.rcell ta0 (by decide +kernel)).trans d83) ?_
        refine q_getI dX10_alp_41 fl10_87 (kR7 hS150.1 ta82) c158 ?_
        refine q_putI dX10_alp_44 fl10_90 (kR1 hS150.1 ta0) (Or.inl rfl) hS150 ta0 (iokF rfl) rfl (by decide +kernel) ?_
        intro I168 hS169 e170 f171
        have c172 : I168 a0 16 = v6 := (f171 _ _ (fun q => absurd q.2 (by decide))).trans c154
        have c173 : I168 a0 11 = v10 := (f171 _ _ (fun q => absurd q.2 (by decide))).trans c155
        have c174 : I168 a0 9 = v13 := (f171 _ _ (fun q => absurd q.2 (by decide))).trans c156
        have c175 : I168 a0 5 = v18 := (f171 _ _ (fun q => absurd q.2 (by decide))).trans c157
        have c176 : I168 a82 15 = v122 := (f171 _ _ (fun q => by have z := ta82; rw [q.1, ta0] at z; exact absurd z (by decide))).trans c158
        have c177 : I168 a8 5 = v124 := (f171 _ _ (fun q => absurd q.2 (by decide))).trans c159
        have c178 : I168 a8 0 = v127 := (f171 _ _ (fun q => absurd q.2 (by decide))).trans c160
        have c179 : I168 a8 11 = v130 := (f171 _ _ (fun q => absurd q.2 (by decide))).trans c161
        have c180 : I168 a8 3 = v133 := (f171 _ _ (fun q => absurd q.2 (by decide))).trans c162
        have c181 : I168 a8 1 = v136 := (f171 _ _ (fun q => absurd q.2 (by decide))).trans c163
        have c182 : I168 a8 9 = v139 := (f171 _ _ (fun q => absurd q.2 (by decide))).trans c164
        have c183 : I168 a8 13 = v142 := (f171 _ _ (fun q => absurd q.2 (by decide))).trans c165
        have c184 : I168 a8 7 = v145 := (f171 _ _ (fun q => absurd q.2 (by decide))).trans c166
        have c185 : I168 a0 1 = v147 := (f171 _ _ (fun q => absurd q.2 (by decide))).trans e151
        have hO186 : FrO 2 a8 T I0 I168 := hO167.put f171 ta0 (Or.inl (by decide))
        refine tr_aload_n dX10_alp_47 rfl ?_
        refine tr_aload_n dX10_alp_48 rfl ?_
        refine tr_getR dX10_alp_49 fl10_28 (kR1 hS169.1 ta0) ((hS169.rcell ta0 (by decide +kernel)).trans d83) ?_
        obtain ⟨v187, c188⟩ : ∃ v, I168 a82 16 = v := ⟨_, rfl⟩
        refine q_getI dX10_alp_52 fl10_91 (kR7 hS169.1 ta82) c188 ?_
        refine q_putI dX10_alp_55 fl10_94 (kR1 hS169.1 ta0) (Or.inl rfl) hS169 ta0 (iokF rfl) rfl (by decide +kernel) ?_
        intro I189 hS190 e191 f192
        have c193 : I189 a0 11 = v10 := (f192 _ _ (fun q => absurd q.2 (by decide))).trans c173
        have c194 : I189 a0 9 = v13 := (f192 _ _ (fun q => absurd q.2 (by decide))).trans c174
        have c195 : I189 a0 5 = v18 := (f192 _ _ (fun q => absurd q.2 (by decide))).trans c175
        have c196 : I189 a82 15 = v122 := (f192 _ _ (fun q => absurd q.2 (by decide))).trans c176
        have c197 : I189 a8 5 = v124 := (f192 _ _ (fun q => absurd q.2 (by decide))).trans c177
        have c198 : I189 a8 0 = v127 := (f192 _ _ (fun q => absurd q.2 (by decide))).trans c178
        have c199 : I189 a8 11 = v130 := (f192 _ _ (fun q => absurd q.2 (by decide))).trans c179
        have c200 : I189 a8 3 = v133 := (f192 _ _ (fun q => absurd q.2 (by decide))).trans c180
        have c201 : I189 a8 1 = v136 := (f192 _ _ (fun q => absurd q.2 (by decide))).trans c181
        have c202 : I189 a8 9 = v139 := (f192 _ _ (fun q => absurd q.2 (by decide))).trans c182
        have c203 : I189 a8 13 = v142 := (f192 _ _ (fun q => absurd q.2 (by decide))).trans c183
        have c204 : I189 a8 7 = v145 := (f192 _ _ (fun q => absurd q.2 (by decide))).trans c184
        have c205 : I189 a0 1 = v147 := (f192 _ _ (fun q => absurd q.2 (by decide))).trans c185
        have c206 : I189 a0 15 = v122 := (f192 _ _ (fun q => absurd q.2 (by decide))).trans e170
        have c207 : I189 a82 16 = v187 := (f192 _ _ (fun q => by have z := ta82; rw [q.1, ta0] at z; exact absurd z (by decide))).trans c188
        have hO208 : FrO 2 a8 T I0 I189 := hO186.put f192 ta0 (Or.inl (by decide))
        refine tr_iload_n dX10_alp_58 rfl ?_
        refine q_if_ne 68 dX10_alp_59 (by decide) (fun h209 => ?_) (fun h209 => ?_)
        · skip
          refine tr_aload_n dX10_alp_68 rfl ?_
          refine tr_getR dX10_alp_69 fl10_16 (kR1 hS190.1 ta0) d102 ?_
          refine tr_astore_n dX10_alp_72 (by decide) (by decide) ?_
          refine tr_aload_n dX10_alp_73 rfl ?_
          refine tr_aload_n dX10_alp_74 rfl ?_
          refine tr_getR dX10_alp_75 fl10_20 (kR1 hS190.1 ta0) d101 ?_
          refine q_putR dX10_alp_78 fl10_16 (kR1 hS190.1 ta0) (Or.inl rfl) hS190 ta0 (okR_in rfl rfl ta8) rfl (by decide +kernel) ?_
          intro R210 hS211 e212 f213
          have d214 : R210 a0 3 = some a8 := (f213 _ _ (fun q => absurd q.2 (by decide))).trans d101
          refine tr_aload_n dX10_alp_81 rfl ?_
          refine tr_aload_n dX10_alp_82 rfl ?_
          refine q_putR dX10_alp_83 fl10_20 (kR1 hS211.1 ta0) (Or.inl rfl) hS211 ta0 (okR_in rfl rfl ta16) rfl (by decide +kernel) ?_
          intro R215 hS216 e217 f218
          have d219 : R215 a0 2 = some a8 := (f218 _ _ (fun q => absurd q.2 (by decide))).trans e212
          refine tr_aload_n dX10_alp_86 rfl ?_
          refine q_iconst dX10_alp_87 (by decide) ?_
          intro v220 h221
          refine q_putZ dX10_alp_88 fl10_95 (kR1 hS216.1 ta0) (Or.inl rfl) hS216 ta0 (by omega) (by show (0 : Int) ≤ v220.toInt ∧ v220.toInt ≤ (1 : Int); omega) rfl (by decide +kernel) ?_
          intro I222 hS223 e224 f225
          have c226 : I222 a0 11 = v10 := (f225 _ _ (fun q => absurd q.2 (by decide))).trans c193
          have c227 : I222 a0 9 = v13 := (f225 _ _ (fun q => absurd q.2 (by decide))).trans c194
          have c228 : I222 a82 15 = v122 := (f225 _ _ (fun q => absurd q.2 (by decide))).trans c196
          have c229 : I222 a8 5 = v124 := (f225 _ _ (fun q => by have z := ta8; rw [q.1, ta0] at z; exact absurd z (by decide))).trans c197
          have c230 : I222 a8 0 = v127 := (f225 _ _ (fun q => absurd q.2 (by decide))).trans c198
          have c231 : I222 a8 11 = v130 := (f225 _ _ (fun q => absurd q.2 (by decide))).trans c199
          have c232 : I222 a8 3 = v133 := (f225 _ _ (fun q => absurd q.2 (by decide))).trans c200
          have c233 : I222 a8 1 = v136 := (f225 _ _ (fun q => absurd q.2 (by decide))).trans c201
          have c234 : I222 a8 9 = v139 := (f225 _ _ (fun q => absurd q.2 (by decide))).trans c202
          have c235 : I222 a8 13 = v142 := (f225 _ _ (fun q => absurd q.2 (by decide))).trans c203
          have c236 : I222 a8 7 = v145 := (f225 _ _ (fun q => absurd q.2 (by decide))).trans c204
          have c237 : I222 a0 1 = v147 := (f225 _ _ (fun q => absurd q.2 (by decide))).trans c205
          have c238 : I222 a0 15 = v122 := (f225 _ _ (fun q => absurd q.2 (by decide))).trans c206
          have c239 : I222 a82 16 = v187 := (f225 _ _ (fun q => absurd q.2 (by decide))).trans c207
          have c240 : I222 a0 16 = v187 := (f225 _ _ (fun q => absurd q.2 (by decide))).trans e191
          have hO241 : FrO 2 a8 T I0 I222 := hO208.put f225 ta0 (Or.inl (by decide))
          refine tr_aload_n dX10_alp_91 rfl ?_
          obtain ⟨a242, d243, ta242⟩ := rf1_6 hW0 ta0
          refine tr_getR dX10_alp_92 fl10_35 (kR1 hS223.1 ta0) ((hS223.rcell ta0 (by decide +kernel)).trans d243) ?_
          refine q_callVv hE (M' := mX3_clear) (as := []) dX10_alp_95 lk10_99 inX3_clear seX3_clear myX3_clear (by decide) ⟨by decide, by decide⟩ rfl (kR8 hS223.1 ta242) (Nat.le_of_ble_eq_true rfl) rfl rfl (by decide) (by decide) (fk_X3_clear hS223.1  ta242) ?_
          rintro cn' K' N' I244 R245 L246 ⟨rfl, rfl, rfl, rfl, rfl, g247, p250, p251, p252, -⟩
          have hS253 := hS223.tr g247 (by decide +kernel) (by decide +kernel)
          have c254 : I244 a0 11 = v10 := (g247.cell ta0 (by decide +kernel)).trans c226
          have c255 : I244 a0 9 = v13 := (g247.cell ta0 (by decide +kernel)).trans c227
          have c256 : I244 a82 15 = v122 := (g247.cell ta82 (by decide +kernel)).trans c228
          have c257 : I244 a8 5 = v124 := (g247.cell ta8 (by decide +kernel)).trans c229
          have c258 : I244 a8 0 = v127 := (g247.cell ta8 (by decide +kernel)).trans c230
          have c259 : I244 a8 11 = v130 := (g247.cell ta8 (by decide +kernel)).trans c231
          have c260 : I244 a8 3 = v133 := (g247.cell ta8 (by decide +kernel)).trans c232
          have c261 : I244 a8 1 = v136 := (g247.cell ta8 (by decide +kernel)).trans c233
          have c262 : I244 a8 9 = v139 := (g247.cell ta8 (by decide +kernel)).trans c234
          have c263 : I244 a8 13 = v142 := (g247.cell ta8 (by decide +kernel)).trans c235
          have c264 : I244 a8 7 = v145 := (g247.cell ta8 (by decide +kernel)).trans c236
          have c265 : I244 a0 1 = v147 := (g247.cell ta0 (by decide +kernel)).trans c237
          have c266 : I244 a0 15 = v122 := (g247.cell ta0 (by decide +kernel)).trans c238
          have c267 : I244 a82 16 = v187 := (g247.cell ta82 (by decide +kernel)).trans c239
          have c268 : I244 a0 16 = v187 := (g247.cell ta0 (by decide +kernel)).trans c240
          have c269 : I244 a0 5 = v220 := (g247.cell ta0 (by decide +kernel)).trans e224
          have hO270 : FrO 2 a8 T I0 I244 := hO241.st g247 (by decide +kernel)
          obtain ⟨v271, c272⟩ : ∃ v, I244 a242 0 = v := ⟨_, rfl⟩
          rw [c272] at p250
          obtain ⟨v273, c274⟩ : ∃ v, I244 a242 1 = v := ⟨_, rfl⟩
          have b275 := iv8_1 hS253.1 ta242 c274
          rw [c274] at p251
          obtain ⟨v276, c277⟩ : ∃ v, I244 a242 2 = v := ⟨_, rfl⟩
          have b278 := iv8_2 hS253.1 ta242 c277
          rw [c277] at p252
          refine tr_aload_n dX10_alp_98 rfl ?_
          obtain ⟨a279, d280, ta279⟩ := rf1_7 hW0 ta0
          refine tr_getR dX10_alp_99 fl10_42 (kR1 hS253.1 ta0) ((hS253.rcell ta0 (by decide +kernel)).trans d280) ?_
          refine q_callVv hE (M' := mX6_clear) (as := []) dX10_alp_102 lk10_102 inX6_clear seX6_clear myX6_clear (by decide) ⟨by decide, by decide⟩ rfl (kR11 hS253.1 ta279) (Nat.le_of_ble_eq_true rfl) rfl rfl (by decide) (by decide) (fk_X6_clear hS253.1  ta279) ?_
          rintro cn' K' N' I281 R282 L283 ⟨rfl, rfl, rfl, rfl, rfl, g284, p287, p288, -⟩
          have hS289 := hS253.tr g284 (by decide +kernel) (by decide +kernel)
          have c290 : I281 a0 11 = v10 := (g284.cell ta0 (by decide +kernel)).trans c254
          have c291 : I281 a0 9 = v13 := (g284.cell ta0 (by decide +kernel)).trans c255
          have c292 : I281 a82 15 = v122 := (g284.cell ta82 (by decide +kernel)).trans c256
          have c293 : I281 a8 5 = v124 := (g284.cell ta8 (by decide +kernel)).trans c257
          have c294 : I281 a8 0 = v127 := (g284.cell ta8 (by decide +kernel)).trans c258
          have c295 : I281 a8 11 = v130 := (g284.cell ta8 (by decide +kernel)).trans c259
          have c296 : I281 a8 3 = v133 := (g284.cell ta8 (by decide +kernel)).trans c260
          have c297 : I281 a8 1 = v136 := (g284.cell ta8 (by decide +kernel)).trans c261
          have c298 : I281 a8 9 = v139 := (g284.cell ta8 (by decide +kernel)).trans c262
          have c299 : I281 a8 13 = v142 := (g284.cell ta8 (by decide +kernel)).trans c263
          have c300 : I281 a8 7 = v145 := (g284.cell ta8 (by decide +kernel)).trans c264
          have c301 : I281 a0 1 = v147 := (g284.cell ta0 (by decide +kernel)).trans c265
          have c302 : I281 a0 15 = v122 := (g284.cell ta0 (by decide +kernel)).trans c266
          have c303 : I281 a82 16 = v187 := (g284.cell ta82 (by decide +kernel)).trans c267
          have c304 : I281 a0 16 = v187 := (g284.cell ta0 (by decide +kernel)).trans c268
          have c305 : I281 a0 5 = v220 := (g284.cell ta0 (by decide +kernel)).trans c269
          have c306 : I281 a242 0 = v271 := (g284.cell ta242 (by decide +kernel)).trans c272
          have c307 : I281 a242 1 = v273 := (g284.cell ta242 (by decide +kernel)).trans c274
          have c308 : I281 a242 2 = v276 := (g284.cell ta242 (by decide +kernel)).trans c277
          have hO309 : FrO 2 a8 T I0 I281 := hO270.st g284 (by decide +kernel)
          obtain ⟨v310, c311⟩ : ∃ v, I281 a279 0 = v := ⟨_, rfl⟩
          have b312 := iv11_0 hS289.1 ta279 c311
          rw [c311] at p287
          obtain ⟨v313, c314⟩ : ∃ v, I281 a279 2 = v := ⟨_, rfl⟩
          have b315 := iv11_2 hS289.1 ta279 c314
          rw [c314] at p288
          refine tr_aload_n dX10_alp_105 rfl ?_
          refine q_callVv hE (M' := mX10_cloudsMoved) (as := []) dX10_alp_106 lk10_103 inX10_cloudsMoved seX10_cloudsMoved myX10_cloudsMoved (by decide) ⟨by decide, by decide⟩ rfl (kR1 hS289.1 ta0) (Nat.le_of_ble_eq_true rfl) rfl rfl (by decide) (by decide) (fk_X10_cloudsMoved hS289.1  ta0) ?_
          rintro cn' K' N' I316 R317 L318 ⟨rfl, rfl, rfl, rfl, rfl, g319, p322, p323, -⟩
          have hS324 := hS289.tr g319 (by decide +kernel) (by decide +kernel)
          have c325 : I316 a82 15 = v122 := (g319.cell ta82 (by decide +kernel)).trans c292
          have c326 : I316 a8 5 = v124 := (g319.cell ta8 (by decide +kernel)).trans c293
          have c327 : I316 a8 0 = v127 := (g319.cell ta8 (by decide +kernel)).trans c294
          have c328 : I316 a8 11 = v130 := (g319.cell ta8 (by decide +kernel)).trans c295
          have c329 : I316 a8 3 = v133 := (g319.cell ta8 (by decide +kernel)).trans c296
          have c330 : I316 a8 1 = v136 := (g319.cell ta8 (by decide +kernel)).trans c297
          have c331 : I316 a8 9 = v139 := (g319.cell ta8 (by decide +kernel)).trans c298
          have c332 : I316 a8 13 = v142 := (g319.cell ta8 (by decide +kernel)).trans c299
          have c333 : I316 a8 7 = v145 := (g319.cell ta8 (by decide +kernel)).trans c300
          have c334 : I316 a0 1 = v147 := (g319.cell ta0 (by decide +kernel)).trans c301
          have c335 : I316 a0 15 = v122 := (g319.cell ta0 (by decide +kernel)).trans c302
          have c336 : I316 a82 16 = v187 := (g319.cell ta82 (by decide +kernel)).trans c303
          have c337 : I316 a0 16 = v187 := (g319.cell ta0 (by decide +kernel)).trans c304
          have c338 : I316 a0 5 = v220 := (g319.cell ta0 (by decide +kernel)).trans c305
          have c339 : I316 a242 0 = v271 := (g319.cell ta242 (by decide +kernel)).trans c306
          have c340 : I316 a242 1 = v273 := (g319.cell ta242 (by decide +kernel)).trans c307
          have c341 : I316 a242 2 = v276 := (g319.cell ta242 (by decide +kernel)).trans c308
          have c342 : I316 a279 0 = v310 := (g319.cell ta279 (by decide +kernel)).trans c311
          have c343 : I316 a279 2 = v313 := (g319.cell ta279 (by decide +kernel)).trans c314
          have hO344 : FrO 2 a8 T I0 I316 := hO309.st g319 (by decide +kernel)
          obtain ⟨v345, c346⟩ : ∃ v, I316 a0 9 = v := ⟨_, rfl⟩
          have b347 := iv1_9 hS324.1 ta0 c346
          rw [c346] at p322
          obtain ⟨v348, c349⟩ : ∃ v, I316 a0 11 = v := ⟨_, rfl⟩
          have b350 := iv1_11 hS324.1 ta0 c349
          rw [c349] at p323
          refine tr_aload_n dX10_alp_109 rfl ?_
          refine tr_aload_n dX10_alp_110 rfl ?_
          refine tr_getR dX10_alp_111 fl10_16 (kR1 hS324.1 ta0) d219 ?_
          refine q_getI dX10_alp_114 fl10_106 (kR2 hS324.1 ta8) c326 ?_
          refine q_callVi hE (M' := mX10_answered) (as := [_]) dX10_alp_117 lk10_109 inX10_answered seX10_answered myX10_answered (by decide) ⟨by decide, by decide⟩ rfl (kR1 hS324.1 ta0) (Nat.le_of_ble_eq_true rfl) rfl rfl (by decide) (by decide) (fk_X10_answered hS324.1  ta0) ?_
          rintro v356 cn' K' N' I351 R352 L353 ⟨rfl, rfl, rfl, rfl, rfl, g354, p357, p358, -⟩
          have hS359 := hS324.tr g354 (by decide +kernel) (by decide +kernel)
          have c360 : I351 a82 15 = v122 := (g354.cell ta82 (by decide +kernel)).trans c325
          have c361 : I351 a8 5 = v124 := (g354.cell ta8 (by decide +kernel)).trans c326
          have c362 : I351 a8 0 = v127 := (g354.cell ta8 (by decide +kernel)).trans c327
          have c363 : I351 a8 11 = v130 := (g354.cell ta8 (by decide +kernel)).trans c328
          have c364 : I351 a8 3 = v133 := (g354.cell ta8 (by decide +kernel)).trans c329
          have c365 : I351 a8 1 = v136 := (g354.cell ta8 (by decide +kernel)).trans c330
          have c366 : I351 a8 9 = v139 := (g354.cell ta8 (by decide +kernel)).trans c331
          have c367 : I351 a8 13 = v142 := (g354.cell ta8 (by decide +kernel)).trans c332
          have c368 : I351 a8 7 = v145 := (g354.cell ta8 (by decide +kernel)).trans c333
          have c369 : I351 a0 1 = v147 := (g354.cell ta0 (by decide +kernel)).trans c334
          have c370 : I351 a0 15 = v122 := (g354.cell ta0 (by decide +kernel)).trans c335
          have c371 : I351 a82 16 = v187 := (g354.cell ta82 (by decide +kernel)).trans c336
          have c372 : I351 a0 16 = v187 := (g354.cell ta0 (by decide +kernel)).trans c337
          have c373 : I351 a0 5 = v220 := (g354.cell ta0 (by decide +kernel)).trans c338
          have c374 : I351 a242 0 = v271 := (g354.cell ta242 (by decide +kernel)).trans c339
          have c375 : I351 a242 1 = v273 := (g354.cell ta242 (by decide +kernel)).trans c340
          have c376 : I351 a242 2 = v276 := (g354.cell ta242 (by decide +kernel)).trans c341
          have c377 : I351 a279 0 = v310 := (g354.cell ta279 (by decide +kernel)).trans c342
          have c378 : I351 a279 2 = v313 := (g354.cell ta279 (by decide +kernel)).trans c343
          have c379 : I351 a0 9 = v345 := (g354.cell ta0 (by decide +kernel)).trans c346
          have c380 : I351 a0 11 = v348 := (g354.cell ta0 (by decide +kernel)).trans c349
          have hO381 : FrO 2 a8 T I0 I351 := hO344.st g354 (by decide +kernel)
          obtain ⟨v382, c383⟩ : ∃ v, I351 a0 17 = v := ⟨_, rfl⟩
          rw [c383] at p358
          exact tr_iret hZ dX10_alp_120 rfl (by decide) (by decide) ⟨v356, rfl, rfl, rfl, rfl, hS359, hL104, (fun dr hd => by obtain rfl := Option.some.inj (d9.symm.trans hd); exact ((((((((((FrK.rf (R := R0) (al := a8) (W := fun _ => True) (T := T)).tr rp91).put f152 ta0 (by decide)).put f171 ta0 (by decide)).put f192 ta0 (by decide)).put f225 ta0 (by decide)).st g247 (by decide +kernel)).st g284 (by decide +kernel)).st g319 (by decide +kernel)).st g354 (by decide +kernel))), (fun dr hd => (Option.some.inj (d9.symm.trans hd)) ▸ hO381), (Or.inr (Or.inl ⟨(by first | done | with_reducible assumption | omega), (by (try rw [c2]); first | done | with_reducible assumption | omega), (by first | done | with_reducible assumption | omega), (by first | done | with_reducible assumption | omega), (by (try rw [c369]); first | done | with_reducible assumption | omega), (by (try rw [c370]); first | done | with_reducible assumption | omega), (by (try rw [c383]); first | done | with_reducible assumption | omega), (by (try rw [c373]); first | done | with_reducible assumption | omega), (fun q0 z0 => by obtain rfl := Option.some.inj ((((hS359.rcell ta0 (by decide +kernel)).trans d243)).symm.trans z0); (try rw [c374]); first | done | with_reducible assumption | omega), (fun q0 z0 => by obtain rfl := Option.some.inj ((((hS359.rcell ta0 (by decide +kernel)).trans d243)).symm.trans z0); (try rw [c375]); first | done | with_reducible assumption | omega), (fun q0 z0 => by obtain rfl := Option.some.inj ((((hS359.rcell ta0 (by decide +kernel)).trans d243)).symm.trans z0); (try rw [c376]); first | done | with_reducible assumption | omega), (fun q0 z0 => by obtain rfl := Option.some.inj ((((hS359.rcell ta0 (by decide +kernel)).trans d280)).symm.trans z0); (try rw [c377]); first | done | with_reducible assumption | omega), (fun q0 z0 => by obtain rfl := Option.some.inj ((((hS359.rcell ta0 (by decide +kernel)).trans d280)).symm.trans z0); (try rw [c378]); first | done | with_reducible assumption | omega), (fun q0 z0 => by obtain rfl := Option.some.inj ((d219).symm.trans z0); (try rw [c362]); first | done | with_reducible assumption | omega), (fun q0 z0 => by obtain rfl := Option.some.inj ((d219).symm.trans z0); (try rw [c363]); first | done | with_reducible assumption | omega), (fun q0 z0 => by obtain rfl := Option.some.inj ((d219).symm.trans z0); (try rw [c364]); first | done | with_reducible assumption | omega), (fun q0 z0 => by obtain rfl := Option.some.inj ((d219).symm.trans z0); (try rw [c365]); first | done | with_reducible assumption | omega), (fun q0 z0 => by obtain rfl := Option.some.inj ((d219).symm.trans z0); (try rw [c361]); first | done | with_reducible assumption | omega), (fun q0 z0 => by obtain rfl := Option.some.inj ((d219).symm.trans z0); (try rw [c366]); first | done | with_reducible assumption | omega), (fun q0 z0 => by obtain rfl := Option.some.inj ((d219).symm.trans z0); (try rw [c367]); first | done | with_reducible assumption | omega), ⟨(d219).trans (d9).symm, (e217).trans (d17).symm⟩, (fun dr hd hD => by obtain rfl := Option.some.inj (d9.symm.trans hd); exact AlC.kp (rp117 (hD)) hW0 ta8 (((g354.cell ta8 (wm_no (by decide +kernel))).trans ((g319.cell ta8 (wm_no (by decide +kernel))).trans ((g284.cell ta8 (wm_no (by decide +kernel))).trans ((g247.cell ta8 (wm_no (by decide +kernel))).trans ((f225 _ _ (fun q => by have z := ta8; rw [q.1, ta0] at z; exact absurd z (by decide))).trans ((f192 _ _ (fun q => by have z := ta8; rw [q.1, ta0] at z; exact absurd z (by decide))).trans ((f171 _ _ (fun q => by have z := ta8; rw [q.1, ta0] at z; exact absurd z (by decide))).trans (f152 _ _ (fun q => by have z := ta8; rw [q.1, ta0] at z; exact absurd z (by decide))))))))))) (show RoF rdc T _ _ from (((((((((RoF.rf (ex := rdc) (T := T)).put f152 ta0 (by decide)).put f171 ta0 (by decide)).put f192 ta0 (by decide)).put f225 ta0 (by decide)).tr (RoF.st g247 (by decide +kernel))).tr (RoF.st g284 (by decide +kernel))).tr (RoF.st g319 (by decide +kernel))).tr (RoF.st g354 (by decide +kernel))))), (by rw [c379]; omega), (by rw [c380]; omega), trivial⟩)), trivial⟩
        · skip
          exfalso; omega
      · skip
        obtain ⟨v384, c385⟩ : ∃ v, I84 a82 15 = v := ⟨_, rfl⟩
        rw [c385] at p120
        obtain ⟨v386, c387⟩ : ∃ v, I84 a82 16 = v := ⟨_, rfl⟩
        rw [c387] at p121
        refine tr_istore_n dX10_alp_30 (by decide) (by decide) ?_
        refine tr_aload_n dX10_alp_31 rfl ?_
        refine q_iconst dX10_alp_32 (by decide) ?_
        intro v388 h389
        refine q_putI dX10_alp_33 fl10_71 (kR1 hS94.1 ta0) (Or.inl rfl) hS94 ta0 (by show (0 : Int) ≤ v388.toInt ∧ v388.toInt ≤ (900 : Int); omega) rfl (by decide +kernel) ?_
        intro I390 hS391 e392 f393
        have c394 : I390 a0 15 = v4 := (f393 _ _ (fun q => absurd q.2 (by decide))).trans c96
        have c395 : I390 a0 16 = v6 := (f393 _ _ (fun q => absurd q.2 (by decide))).trans c97
        have c396 : I390 a0 11 = v10 := (f393 _ _ (fun q => absurd q.2 (by decide))).trans c98
        have c397 : I390 a0 9 = v13 := (f393 _ _ (fun q => absurd q.2 (by decide))).trans c99
        have c398 : I390 a0 5 = v18 := (f393 _ _ (fun q => absurd q.2 (by decide))).trans c100
        have c399 : I390 a82 15 = v384 := (f393 _ _ (fun q => absurd q.2 (by decide))).trans c385
        have c400 : I390 a82 16 = v386 := (f393 _ _ (fun q => absurd q.2 (by decide))).trans c387
        have hO401 : FrO 2 a8 T I0 I390 := hO103.put f393 ta0 (Or.inl (by decide))
        refine tr_aload_n dX10_alp_36 rfl ?_
        refine tr_aload_n dX10_alp_37 rfl ?_
        refine tr_getR dX10_alp_38 fl10_28 (kR1 hS391.1 ta0) ((hS391.rcell ta0 (by decide +kernel)).trans d83) ?_
        refine q_getI dX10_alp_41 fl10_87 (kR7 hS391.1 ta82) c399 ?_
        refine q_putI dX10_alp_44 fl10_90 (kR1 hS391.1 ta0) (Or.inl rfl) hS391 ta0 (iokF rfl) rfl (by decide +kernel) ?_
        intro I402 hS403 e404 f405
        have c406 : I402 a0 16 = v6 := (f405 _ _ (fun q => absurd q.2 (by decide))).trans c395
        have c407 : I402 a0 11 = v10 := (f405 _ _ (fun q => absurd q.2 (by decide))).trans c396
        have c408 : I402 a0 9 = v13 := (f405 _ _ (fun q => absurd q.2 (by decide))).trans c397
        have c409 : I402 a0 5 = v18 := (f405 _ _ (fun q => absurd q.2 (by decide))).trans c398
        have c410 : I402 a82 15 = v384 := (f405 _ _ (fun q => by have z := ta82; rw [q.1, ta0] at z; exact absurd z (by decide))).trans c399
        have c411 : I402 a82 16 = v386 := (f405 _ _ (fun q => absurd q.2 (by decide))).trans c400
        have c412 : I402 a0 1 = v388 := (f405 _ _ (fun q => absurd q.2 (by decide))).trans e392
        have hO413 : FrO 2 a8 T I0 I402 := hO401.put f405 ta0 (Or.inl (by decide))
        refine tr_aload_n dX10_alp_47 rfl ?_
        refine tr_aload_n dX10_alp_48 rfl ?_
        refine tr_getR dX10_alp_49 fl10_28 (kR1 hS403.1 ta0) ((hS403.rcell ta0 (by decide +kernel)).trans d83) ?_
        refine q_getI dX10_alp_52 fl10_91 (kR7 hS403.1 ta82) c411 ?_
        refine q_putI dX10_alp_55 fl10_94 (kR1 hS403.1 ta0) (Or.inl rfl) hS403 ta0 (iokF rfl) rfl (by decide +kernel) ?_
        intro I414 hS415 e416 f417
        have c418 : I414 a0 11 = v10 := (f417 _ _ (fun q => absurd q.2 (by decide))).trans c407
        have c419 : I414 a0 9 = v13 := (f417 _ _ (fun q => absurd q.2 (by decide))).trans c408
        have c420 : I414 a0 5 = v18 := (f417 _ _ (fun q => absurd q.2 (by decide))).trans c409
        have c421 : I414 a82 15 = v384 := (f417 _ _ (fun q => absurd q.2 (by decide))).trans c410
        have c422 : I414 a82 16 = v386 := (f417 _ _ (fun q => by have z := ta82; rw [q.1, ta0] at z; exact absurd z (by decide))).trans c411
        have c423 : I414 a0 1 = v388 := (f417 _ _ (fun q => absurd q.2 (by decide))).trans c412
        have c424 : I414 a0 15 = v384 := (f417 _ _ (fun q => absurd q.2 (by decide))).trans e404
        have hO425 : FrO 2 a8 T I0 I414 := hO413.put f417 ta0 (Or.inl (by decide))
        refine tr_iload_n dX10_alp_58 rfl ?_
        refine q_if_ne 68 dX10_alp_59 (by decide) (fun h426 => ?_) (fun h426 => ?_)
        · skip
          exfalso; omega
        · skip
          refine tr_aload_n dX10_alp_62 rfl ?_
          refine q_iconst dX10_alp_63 (by decide) ?_
          intro v427 h428
          refine q_callVi hE (M' := mX10_refused) (as := [_]) dX10_alp_64 lk10_79 inX10_refused seX10_refused myX10_refused (by decide) ⟨by decide, by decide⟩ rfl (kR1 hS415.1 ta0) (Nat.le_of_ble_eq_true rfl) rfl rfl (by decide) (by decide) (fk_X10_refused hS415.1  ta0) ?_
          rintro v434 cn' K' N' I429 R430 L431 ⟨rfl, rfl, rfl, rfl, rfl, g432, p435, p436, -⟩
          have hS437 := hS415.tr g432 (by decide +kernel) (by decide +kernel)
          have c438 : I429 a0 11 = v10 := (g432.cell ta0 (by decide +kernel)).trans c418
          have c439 : I429 a0 9 = v13 := (g432.cell ta0 (by decide +kernel)).trans c419
          have c440 : I429 a0 5 = v18 := (g432.cell ta0 (by decide +kernel)).trans c420
          have c441 : I429 a82 15 = v384 := (g432.cell ta82 (by decide +kernel)).trans c421
          have c442 : I429 a82 16 = v386 := (g432.cell ta82 (by decide +kernel)).trans c422
          have c443 : I429 a0 1 = v388 := (g432.cell ta0 (by decide +kernel)).trans c423
          have c444 : I429 a0 15 = v384 := (g432.cell ta0 (by decide +kernel)).trans c424
          have c445 : I429 a0 16 = v386 := (g432.cell ta0 (by decide +kernel)).trans e416
          have hO446 : FrO 2 a8 T I0 I429 := hO425.st g432 (by decide +kernel)
          obtain ⟨v447, c448⟩ : ∃ v, I429 a0 17 = v := ⟨_, rfl⟩
          rw [c448] at p436
          obtain ⟨a449, d450, ta449⟩ := rf1_6 hW0 ta0
          obtain ⟨v451, c452⟩ : ∃ v, I429 a449 0 = v := ⟨_, rfl⟩
          obtain ⟨v453, c454⟩ : ∃ v, I429 a449 1 = v := ⟨_, rfl⟩
          have b455 := iv8_1 hS437.1 ta449 c454
          obtain ⟨v456, c457⟩ : ∃ v, I429 a449 2 = v := ⟨_, rfl⟩
          have b458 := iv8_2 hS437.1 ta449 c457
          obtain ⟨a459, d460, ta459⟩ := rf1_7 hW0 ta0
          obtain ⟨v461, c462⟩ : ∃ v, I429 a459 0 = v := ⟨_, rfl⟩
          have b463 := iv11_0 hS437.1 ta459 c462
          obtain ⟨v464, c465⟩ : ∃ v, I429 a459 2 = v := ⟨_, rfl⟩
          have b466 := iv11_2 hS437.1 ta459 c465
          obtain ⟨v467, c468⟩ : ∃ v, I429 a16 0 = v := ⟨_, rfl⟩
          have b469 := iv2_0 hS437.1 ta16 c468
          obtain ⟨v470, c471⟩ : ∃ v, I429 a16 11 = v := ⟨_, rfl⟩
          have b472 := iv2_11 hS437.1 ta16 c471
          obtain ⟨v473, c474⟩ : ∃ v, I429 a16 3 = v := ⟨_, rfl⟩
          have b475 := iv2_3 hS437.1 ta16 c474
          obtain ⟨v476, c477⟩ : ∃ v, I429 a16 1 = v := ⟨_, rfl⟩
          have b478 := iv2_1 hS437.1 ta16 c477
          obtain ⟨v479, c480⟩ : ∃ v, I429 a16 5 = v := ⟨_, rfl⟩
          have b481 := iv2_5 hS437.1 ta16 c480
          obtain ⟨v482, c483⟩ : ∃ v, I429 a16 9 = v := ⟨_, rfl⟩
          have b484 := iv2_9 hS437.1 ta16 c483
          obtain ⟨v485, c486⟩ : ∃ v, I429 a16 13 = v := ⟨_, rfl⟩
          have b487 := iv2_13 hS437.1 ta16 c486
          exact tr_iret hZ dX10_alp_67 rfl (by decide) (by decide) ⟨v434, rfl, rfl, rfl, rfl, hS437, hL104, (fun dr hd => by obtain rfl := Option.some.inj (d9.symm.trans hd); exact ((((((FrK.rf (R := R0) (al := a8) (W := fun _ => True) (T := T)).tr rp91).put f393 ta0 (by decide)).put f405 ta0 (by decide)).put f417 ta0 (by decide)).st g432 (by decide +kernel))), (fun dr hd => (Option.some.inj (d9.symm.trans hd)) ▸ hO446), (Or.inr (Or.inr (⟨(by first | done | with_reducible assumption | omega), (by (try rw [c2]); first | done | with_reducible assumption | omega), (by first | done | with_reducible assumption | omega), (by first | done | with_reducible assumption | omega), (by (try rw [c443]); first | done | with_reducible assumption | omega), (by (try rw [c444]); first | done | with_reducible assumption | omega), (by (try rw [c445]); first | done | with_reducible assumption | omega), (by (try rw [c448]); first | done | with_reducible assumption | omega), ⟨(d102).trans (d17).symm, (d101).trans (d9).symm⟩, ⟨fun a j h => by rcases h with h | h | h; exact ((g432.cell h (wm_no (by decide +kernel))).trans ((f417 _ _ (fun q => by have z := h; rw [q.1, ta0] at z; exact absurd z (by decide))).trans ((f405 _ _ (fun q => by have z := h; rw [q.1, ta0] at z; exact absurd z (by decide))).trans ((f393 _ _ (fun q => by have z := h; rw [q.1, ta0] at z; exact absurd z (by decide))).trans (g87.cell h (wm_no (by decide +kernel))))))); exact ((g432.cell h (wm_no (by decide +kernel))).trans ((f417 _ _ (fun q => by have z := h; rw [q.1, ta0] at z; exact absurd z (by decide))).trans ((f405 _ _ (fun q => by have z := h; rw [q.1, ta0] at z; exact absurd z (by decide))).trans ((f393 _ _ (fun q => by have z := h; rw [q.1, ta0] at z; exact absurd z (by decide))).trans (g87.cell h (wm_no (by decide +kernel))))))); exact ((g432.cell h (wm_no (by decide +kernel))).trans ((f417 _ _ (fun q => by have z := h; rw [q.1, ta0] at z; exact absurd z (by decide))).trans ((f405 _ _ (fun q => by have z := h; rw [q.1, ta0] at z; exact absurd z (by decide))).trans ((f393 _ _ (fun q => by have z := h; rw [q.1, ta0] at z; exact absurd z (by decide))).trans (g87.cell h (wm_no (by decide +kernel))))))), (c440).trans (c19).symm⟩, (by rw [c439, c14]; first | done | omega), (by rw [c438, c11]; first | done | omega), trivial⟩))), trivial⟩
    · skip
      refine tr_aload_n dX10_alp_12 rfl ?_
      refine q_iconst dX10_alp_13 (by decide) ?_
      intro v488 h489
      refine q_callVi hE (M' := mX10_refused) (as := [_]) dX10_alp_14 lk10_79 inX10_refused seX10_refused myX10_refused (by decide) ⟨by decide, by decide⟩ rfl (kR1 hS0.1 ta0) (Nat.le_of_ble_eq_true rfl) rfl rfl (by decide) (by decide) (fk_X10_refused hS0.1  ta0) ?_
      rintro v495 cn' K' N' I490 R491 L492 ⟨rfl, rfl, rfl, rfl, rfl, g493, p496, p497, -⟩
      have hS498 := hS0.tr g493 (by decide +kernel) (by decide +kernel)
      have c499 : I490 a0 1 = v1 := (g493.cell ta0 (by decide +kernel)).trans c2
      have c500 : I490 a0 15 = v4 := (g493.cell ta0 (by decide +kernel)).trans c5
      have c501 : I490 a0 16 = v6 := (g493.cell ta0 (by decide +kernel)).trans c7
      have c502 : I490 a0 11 = v10 := (g493.cell ta0 (by decide +kernel)).trans c11
      have c503 : I490 a0 9 = v13 := (g493.cell ta0 (by decide +kernel)).trans c14
      have c504 : I490 a0 5 = v18 := (g493.cell ta0 (by decide +kernel)).trans c19
      have hO505 : FrO 2 a8 T I0 I490 := hO0.st g493 (by decide +kernel)
      obtain ⟨v506, c507⟩ : ∃ v, I490 a0 17 = v := ⟨_, rfl⟩
      rw [c507] at p497
      obtain ⟨a508, d509, ta508⟩ := rf1_6 hW0 ta0
      obtain ⟨v510, c511⟩ : ∃ v, I490 a508 0 = v := ⟨_, rfl⟩
      obtain ⟨v512, c513⟩ : ∃ v, I490 a508 1 = v := ⟨_, rfl⟩
      have b514 := iv8_1 hS498.1 ta508 c513
      obtain ⟨v515, c516⟩ : ∃ v, I490 a508 2 = v := ⟨_, rfl⟩
      have b517 := iv8_2 hS498.1 ta508 c516
      obtain ⟨a518, d519, ta518⟩ := rf1_7 hW0 ta0
      obtain ⟨v520, c521⟩ : ∃ v, I490 a518 0 = v := ⟨_, rfl⟩
      have b522 := iv11_0 hS498.1 ta518 c521
      obtain ⟨v523, c524⟩ : ∃ v, I490 a518 2 = v := ⟨_, rfl⟩
      have b525 := iv11_2 hS498.1 ta518 c524
      obtain ⟨v526, c527⟩ : ∃ v, I490 a16 0 = v := ⟨_, rfl⟩
      have b528 := iv2_0 hS498.1 ta16 c527
      obtain ⟨v529, c530⟩ : ∃ v, I490 a16 11 = v := ⟨_, rfl⟩
      have b531 := iv2_11 hS498.1 ta16 c530
      obtain ⟨v532, c533⟩ : ∃ v, I490 a16 3 = v := ⟨_, rfl⟩
      have b534 := iv2_3 hS498.1 ta16 c533
      obtain ⟨v535, c536⟩ : ∃ v, I490 a16 1 = v := ⟨_, rfl⟩
      have b537 := iv2_1 hS498.1 ta16 c536
      obtain ⟨v538, c539⟩ : ∃ v, I490 a16 5 = v := ⟨_, rfl⟩
      have b540 := iv2_5 hS498.1 ta16 c539
      obtain ⟨v541, c542⟩ : ∃ v, I490 a16 9 = v := ⟨_, rfl⟩
      have b543 := iv2_9 hS498.1 ta16 c542
      obtain ⟨v544, c545⟩ : ∃ v, I490 a16 13 = v := ⟨_, rfl⟩
      have b546 := iv2_13 hS498.1 ta16 c545
      exact tr_iret hZ dX10_alp_17 rfl (by decide) (by decide) ⟨v495, rfl, rfl, rfl, rfl, hS498, hL0, (fun dr hd => by obtain rfl := Option.some.inj (d9.symm.trans hd); exact ((FrK.rf (R := R0) (al := a8) (W := fun _ => True) (T := T)).st g493 (by decide +kernel))), (fun dr hd => (Option.some.inj (d9.symm.trans hd)) ▸ hO505), (Or.inl ⟨(by (try rw [c2]); first | done | with_reducible assumption | omega), (by first | done | with_reducible assumption | omega), (by (try rw [c499]); (try rw [c2]); first | done | with_reducible assumption | omega), (by (try rw [c500]); (try rw [c5]); first | done | with_reducible assumption | omega), (by (try rw [c501]); (try rw [c7]); first | done | with_reducible assumption | omega), (by (try rw [c507]); first | done | with_reducible assumption | omega), ⟨(d17).trans (d17).symm, (d9).trans (d9).symm⟩, ⟨fun a j h => by rcases h with h | h | h; exact (g493.cell h (wm_no (by decide +kernel))); exact (g493.cell h (wm_no (by decide +kernel))); exact (g493.cell h (wm_no (by decide +kernel))), (c504).trans (c19).symm⟩, (by rw [c503, c14]; first | done | omega), (by rw [c502, c11]; first | done | omega), trivial⟩), trivial⟩
