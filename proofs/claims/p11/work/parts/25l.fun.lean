def wik_X10_alp : List Nat := [65, 69, 73, 75, 79, 80, 81, 128, 129, 131, 133, 135, 137, 139, 141, 192, 193, 194, 195, 256, 257, 258, 259, 260, 261, 320, 321, 322, 323, 384, 449, 450, 451, 452, 454, 455, 456, 457, 459, 460, 463, 464, 512, 513, 514, 704, 706, 1215, 1343, 1599]
def wrk_X10_alp : List Nat := [66, 67, 458]
def wlk_X10_alp : List Nat := [453, 1663, 1727]
set_option maxHeartbeats 4000000 in
theorem fk_X10_alp {l : Launch} {T : Nat → Nat} {cn : Nat} {K N : Nat → Nat} {I0 : cz_I} {R0 : cz_R} {L0 : cz_L} {d : Int} (hW0 : Wf T cn K N I0 R0 d) (gT : Nat → Int32) {a0 : Nat} (ta0 : T a0 = 1) {x1 : Int32} (hY : ∀ t, R0 a0 0 = some t → ∀ k : Nat, k < 900 → I0 t k = gT k) (hU : ∀ r, R0 a0 4 = some r → R0 r 0 = R0 a0 0) : ConE l mX10_alp [.ref a0, .int x1] cn K N I0 R0 L0 (ca_i (fun v cn' K' N' I' R' L' => cn = cn' ∧ K = K' ∧ N = N' ∧ St T cn K N d wik_X10_alp wrk_X10_alp I0 R0 I' R' ∧ LgS T wlk_X10_alp L0 L' ∧ (∀ dr, R0 a0 3 = some dr → FrK R0 dr (fun _ => True) T I0 I') ∧ (∀ dr, R0 a0 3 = some dr → FrO 2 dr T I0 I') ∧ ((((x1.toInt < 0 ∨ x1.toInt > (I0 a0 1).toInt)) ∧ (v.toInt = -1) ∧ ((I' a0 1).toInt = (I0 a0 1).toInt) ∧ ((I' a0 15).toInt = (I0 a0 15).toInt) ∧ ((I' a0 16).toInt = (I0 a0 16).toInt) ∧ ((I' a0 17).toInt = 2) ∧ (R' a0 2 = R0 a0 2 ∧ R' a0 3 = R0 a0 3) ∧ ((∀ a j, T a = 8 ∨ T a = 10 ∨ T a = 11 → I' a j = I0 a j) ∧ I' a0 5 = I0 a0 5) ∧ ((I' a0 9).toInt = (I0 a0 9).toInt) ∧ True) ∨ ((0 ≤ x1.toInt) ∧ (x1.toInt ≤ (I0 a0 1).toInt) ∧ ((lsF (gT, x1.toInt) 901 0 Q00) = 0) ∧ (v.toInt = (lsC (gT, x1.toInt) 901 0 Q00)) ∧ ((I' a0 1).toInt = 0) ∧ ((I' a0 15).toInt = 0) ∧ ((I' a0 17).toInt = 0) ∧ ((I' a0 5).toInt = 1) ∧ (∀ b1, R' a0 6 = some b1 → (I' b1 0).toInt = 0) ∧ (∀ b1, R' a0 6 = some b1 → (I' b1 1).toInt = 0) ∧ (∀ b1, R' a0 6 = some b1 → (I' b1 2).toInt = 0) ∧ (∀ b1, R' a0 7 = some b1 → (I' b1 0).toInt = 0) ∧ (∀ b1, R' a0 7 = some b1 → (I' b1 2).toInt = 0) ∧ (∀ b1, R' a0 2 = some b1 → (I' b1 0).toInt = (lsA0 (gT, x1.toInt) 901 0 Q00)) ∧ (∀ b1, R' a0 2 = some b1 → (I' b1 11).toInt = (lsA5 (gT, x1.toInt) 901 0 Q00)) ∧ (∀ b1, R' a0 2 = some b1 → (I' b1 3).toInt = (lsA2 (gT, x1.toInt) 901 0 Q00)) ∧ (∀ b1, R' a0 2 = some b1 → (I' b1 1).toInt = (lsA1 (gT, x1.toInt) 901 0 Q00)) ∧ (∀ b1, R' a0 2 = some b1 → (I' b1 5).toInt = (lsA3 (gT, x1.toInt) 901 0 Q00)) ∧ (∀ b1, R' a0 2 = some b1 → (I' b1 9).toInt = (lsA4 (gT, x1.toInt) 901 0 Q00)) ∧ (∀ b1, R' a0 2 = some b1 → (I' b1 13).toInt = (lsA6 (gT, x1.toInt) 901 0 Q00)) ∧ (R' a0 2 = R0 a0 3 ∧ R' a0 3 = R0 a0 2) ∧ (∀ dr, R0 a0 3 = some dr → AlT R0 dr → AlC I' R0 dr (cnt (gT, x1.toInt)) (lsE (gT, x1.toInt) 901 0 Q00 E00)) ∧ ((I' a0 9).toInt = 0) ∧ True) ∨ ((0 ≤ x1.toInt) ∧ (x1.toInt ≤ (I0 a0 1).toInt) ∧ ((lsF (gT, x1.toInt) 901 0 Q00) ≠ 0) ∧ (v.toInt = -1) ∧ ((I' a0 1).toInt = 0) ∧ ((I' a0 15).toInt = (lsF (gT, x1.toInt) 901 0 Q00)) ∧ ((I' a0 16).toInt = (lsP (gT, x1.toInt) 901 0 Q00)) ∧ ((I' a0 17).toInt = 4) ∧ (R' a0 2 = R0 a0 2 ∧ R' a0 3 = R0 a0 3) ∧ ((∀ a j, T a = 8 ∨ T a = 10 ∨ T a = 11 → I' a j = I0 a j) ∧ I' a0 5 = I0 a0 5) ∧ ((I' a0 9).toInt = (I0 a0 9).toInt) ∧ True)) ∧ True)) := by
  refine ConE.of (by decide +kernel) rfl (Nat.le_of_ble_eq_true rfl) rfl (fun X hX hZ hE => ?_)
  subst hX
  have hS0 : St T cn K N d wik_X10_alp wrk_X10_alp I0 R0 I0 R0 := St.rf0 hW0
  have hL0 : LgS T wlk_X10_alp L0 L0 := LgS.rf0
  obtain ⟨v1, c2⟩ : ∃ v, I0 a0 1 = v := ⟨_, rfl⟩
  have b3 := iv1_1 hS0.1 ta0 c2
  obtain ⟨v4, c5⟩ : ∃ v, I0 a0 15 = v := ⟨_, rfl⟩
  obtain ⟨v6, c7⟩ : ∃ v, I0 a0 16 = v := ⟨_, rfl⟩
  obtain ⟨a8, d9, ta8⟩ := rf1_3 hS0.1 ta0
  have hO0 : FrO 2 a8 T I0 I0 := FrO.rf
  obtain ⟨v10, c11⟩ : ∃ v, I0 a0 9 = v := ⟨_, rfl⟩
  have b12 := iv1_9 hS0.1 ta0 c11
  obtain ⟨a13, d14, ta13⟩ := rf1_2 hS0.1 ta0
  obtain ⟨v15, c16⟩ : ∃ v, I0 a0 5 = v := ⟨_, rfl⟩
  have b17 := iv1_5 hS0.1 ta0 c16
  refine tr_iload_n dX10_alp_0 rfl ?_
  refine q_if_lt 12 dX10_alp_1 (by decide) (fun h18 => ?_) (fun h18 => ?_)
  · skip
    refine tr_aload_n dX10_alp_12 rfl ?_
    refine q_iconst dX10_alp_13 (by decide) ?_
    intro v19 h20
    refine q_callVi hE (M' := mX10_refused) (as := [_]) dX10_alp_14 lk10_79 inX10_refused seX10_refused myX10_refused (by decide) ⟨by decide, by decide⟩ rfl (kR1 hS0.1 ta0) (Nat.le_of_ble_eq_true rfl) rfl rfl (by decide) (by decide) (fk_X10_refused hS0.1  ta0) ?_
    rintro v26 cn' K' N' I21 R22 L23 ⟨rfl, rfl, rfl, rfl, rfl, g24, p27, p28, -⟩
    have hS29 := hS0.tr g24 (by decide +kernel) (by decide +kernel)
    have c30 : I21 a0 1 = v1 := (g24.cell ta0 (by decide +kernel)).trans c2
    have c31 : I21 a0 15 = v4 := (g24.cell ta0 (by decide +kernel)).trans c5
    have c32 : I21 a0 16 = v6 := (g24.cell ta0 (by decide +kernel)).trans c7
    have c33 : I21 a0 9 = v10 := (g24.cell ta0 (by decide +kernel)).trans c11
    have c34 : I21 a0 5 = v15 := (g24.cell ta0 (by decide +kernel)).trans c16
    have hO35 : FrO 2 a8 T I0 I21 := hO0.st g24 (by decide +kernel)
    obtain ⟨v36, c37⟩ : ∃ v, I21 a0 17 = v := ⟨_, rfl⟩
    rw [c37] at p28
    obtain ⟨a38, d39, ta38⟩ := rf1_6 hW0 ta0
    obtain ⟨v40, c41⟩ : ∃ v, I21 a38 0 = v := ⟨_, rfl⟩
    obtain ⟨v42, c43⟩ : ∃ v, I21 a38 1 = v := ⟨_, rfl⟩
    have b44 := iv8_1 hS29.1 ta38 c43
    obtain ⟨v45, c46⟩ : ∃ v, I21 a38 2 = v := ⟨_, rfl⟩
    have b47 := iv8_2 hS29.1 ta38 c46
    obtain ⟨a48, d49, ta48⟩ := rf1_7 hW0 ta0
    obtain ⟨v50, c51⟩ : ∃ v, I21 a48 0 = v := ⟨_, rfl⟩
    have b52 := iv11_0 hS29.1 ta48 c51
    obtain ⟨v53, c54⟩ : ∃ v, I21 a48 2 = v := ⟨_, rfl⟩
    have b55 := iv11_2 hS29.1 ta48 c54
    obtain ⟨v56, c57⟩ : ∃ v, I21 a13 0 = v := ⟨_, rfl⟩
    have b58 := iv2_0 hS29.1 ta13 c57
    obtain ⟨v59, c60⟩ : ∃ v, I21 a13 11 = v := ⟨_, rfl⟩
    have b61 := iv2_11 hS29.1 ta13 c60
    obtain ⟨v62, c63⟩ : ∃ v, I21 a13 3 = v := ⟨_, rfl⟩
    have b64 := iv2_3 hS29.1 ta13 c63
    obtain ⟨v65, c66⟩ : ∃ v, I21 a13 1 = v := ⟨_, rfl⟩
    have b67 := iv2_1 hS29.1 ta13 c66
    obtain ⟨v68, c69⟩ : ∃ v, I21 a13 5 = v := ⟨_, rfl⟩
    have b70 := iv2_5 hS29.1 ta13 c69
    obtain ⟨v71, c72⟩ : ∃ v, I21 a13 9 = v := ⟨_, rfl⟩
    have b73 := iv2_9 hS29.1 ta13 c72
    obtain ⟨v74, c75⟩ : ∃ v, I21 a13 13 = v := ⟨_, rfl⟩
    have b76 := iv2_13 hS29.1 ta13 c75
    exact tr_iret hZ dX10_alp_17 rfl (by decide) (by decide) ⟨v26, rfl, rfl, rfl, rfl, hS29, hL0, (fun dr hd => by obtain rfl := Option.some.inj (d9.symm.trans hd); exact ((FrK.rf (R := R0) (al := a8) (W := fun _ => True) (T := T)).st g24 (by decide +kernel))), (fun dr hd => (Option.some.inj (d9.symm.trans hd)) ▸ hO35), (Or.inl ⟨(by (try rw [c2]); first | done | with_reducible assumption | exact om_99c447d6 h18), (by first | done | with_reducible assumption | omega), (by (try rw [c30]); (try rw [c2]); first | done | with_reducible assumption | omega), (by (try rw [c31]); (try rw [c5]); first | done | with_reducible assumption | omega), (by (try rw [c32]); (try rw [c7]); first | done | with_reducible assumption | omega), (by (try rw [c37]); first | done | with_reducible assumption | exact om_85972af0 h20 p28), ⟨(d14).trans (d14).symm, (d9).trans (d9).symm⟩, ⟨fun a j h => by rcases h with h | h | h; exact (g24.cell h (wm_no (by decide +kernel))); exact (g24.cell h (wm_no (by decide +kernel))); exact (g24.cell h (wm_no (by decide +kernel))), (c34).trans (c16).symm⟩, (by rw [c33, c11]; first | done | omega), trivial⟩), trivial⟩
  · skip
    refine tr_iload_n dX10_alp_4 rfl ?_
    refine tr_aload_n dX10_alp_5 rfl ?_
    refine q_getI dX10_alp_6 fl10_71 (kR1 hS0.1 ta0) c2 ?_
    refine q_icmp_le 18 dX10_alp_9 (by decide) (fun h77 => ?_) (fun h77 => ?_)
    · skip
      refine tr_aload_n dX10_alp_18 rfl ?_
      obtain ⟨a78, d79, ta78⟩ := rf1_4 hW0 ta0
      refine tr_getR dX10_alp_19 fl10_28 (kR1 hS0.1 ta0) d79 ?_
      refine tr_aload_n dX10_alp_22 rfl ?_
      refine tr_getR dX10_alp_23 fl10_20 (kR1 hS0.1 ta0) d9 ?_
      refine tr_iload_n dX10_alp_26 rfl ?_
      refine q_callVi hE (M' := mX7_readAll) (as := [_, _]) dX10_alp_27 lk10_83 inX7_readAll seX7_readAll myX7_readAll (by decide) ⟨by decide, by decide⟩ rfl (kR7 hS0.1 ta78) (Nat.le_of_ble_eq_true rfl) rfl rfl (by decide) (by decide) (fk_X7_readAll hS0.1 ((gT, x1.toInt)) ta78 ta8 (by exact om_8e2484d1 b3.2 b3.1 h18 h77) (Tx.ec hY hU d79 (by exact om_2cfcd5a5 h18) (by exact om_968f5287 b3.2 b3.1 h77)) (by first | done | with_reducible assumption | exact om_4ee7209a)) ?_
      rintro v85 cn' K' N' I80 R81 L82 ⟨rfl, rfl, rfl, g83, gl84, h86, rp87, rp88, dj89, -⟩
      have hS90 := hS0.tr g83 (by decide +kernel) (by decide +kernel)
      have c91 : I80 a0 1 = v1 := (g83.cell ta0 (by decide +kernel)).trans c2
      have c92 : I80 a0 15 = v4 := (g83.cell ta0 (by decide +kernel)).trans c5
      have c93 : I80 a0 16 = v6 := (g83.cell ta0 (by decide +kernel)).trans c7
      have c94 : I80 a0 9 = v10 := (g83.cell ta0 (by decide +kernel)).trans c11
      have c95 : I80 a0 5 = v15 := (g83.cell ta0 (by decide +kernel)).trans c16
      have d96 : R81 a0 3 = some a8 := (g83.rcell ta0 (by decide +kernel)).trans d9
      have d97 : R81 a0 2 = some a13 := (g83.rcell ta0 (by decide +kernel)).trans d14
      have hO98 : FrO 2 a8 T I0 I80 := hO0.tr rp88
      have hL99 := hL0.tr gl84 (by decide +kernel)
      rcases dj89 with ⟨p100, p101, p102, p103, p104, p105, p106, p107, p108, p109, p110, p111, rp112, -⟩ | ⟨p113, p114, p115, p116, -⟩
      · skip
        obtain ⟨v117, c118⟩ : ∃ v, I80 a78 15 = v := ⟨_, rfl⟩
        rw [c118] at p102
        obtain ⟨v119, c120⟩ : ∃ v, I80 a8 5 = v := ⟨_, rfl⟩
        have b121 := iv2_5 hS90.1 ta8 c120
        rw [c120] at p103
        obtain ⟨v122, c123⟩ : ∃ v, I80 a8 0 = v := ⟨_, rfl⟩
        have b124 := iv2_0 hS90.1 ta8 c123
        rw [c123] at p104
        obtain ⟨v125, c126⟩ : ∃ v, I80 a8 11 = v := ⟨_, rfl⟩
        have b127 := iv2_11 hS90.1 ta8 c126
        rw [c126] at p105
        obtain ⟨v128, c129⟩ : ∃ v, I80 a8 3 = v := ⟨_, rfl⟩
        have b130 := iv2_3 hS90.1 ta8 c129
        rw [c129] at p106
        obtain ⟨v131, c132⟩ : ∃ v, I80 a8 1 = v := ⟨_, rfl⟩
        have b133 := iv2_1 hS90.1 ta8 c132
        rw [c132] at p107
        rw [c120] at p108
        obtain ⟨v134, c135⟩ : ∃ v, I80 a8 9 = v := ⟨_, rfl⟩
        have b136 := iv2_9 hS90.1 ta8 c135
        rw [c135] at p109
        obtain ⟨v137, c138⟩ : ∃ v, I80 a8 13 = v := ⟨_, rfl⟩
        have b139 := iv2_13 hS90.1 ta8 c138
        rw [c138] at p110
        obtain ⟨v140, c141⟩ : ∃ v, I80 a8 7 = v := ⟨_, rfl⟩
        rw [c141] at p111
        refine tr_istore_n dX10_alp_30 (by decide) (by decide) ?_
        refine tr_aload_n dX10_alp_31 rfl ?_
        refine q_iconst dX10_alp_32 (by decide) ?_
        intro v142 h143
        refine q_putI dX10_alp_33 fl10_71 (kR1 hS90.1 ta0) (Or.inl rfl) hS90 ta0 (by show (0 : Int) ≤ v142.toInt ∧ v142.toInt ≤ (900 : Int); exact om_d84473bb h143) rfl (by decide +kernel) ?_
        intro I144 hS145 e146 f147
        have c148 : I144 a0 15 = v4 := (f147 _ _ (fun q => absurd q.2 (by decide))).trans c92
        have c149 : I144 a0 16 = v6 := (f147 _ _ (fun q => absurd q.2 (by decide))).trans c93
        have c150 : I144 a0 9 = v10 := (f147 _ _ (fun q => absurd q.2 (by decide))).trans c94
        have c151 : I144 a0 5 = v15 := (f147 _ _ (fun q => absurd q.2 (by decide))).trans c95
        have c152 : I144 a78 15 = v117 := (f147 _ _ (fun q => absurd q.2 (by decide))).trans c118
        have c153 : I144 a8 5 = v119 := (f147 _ _ (fun q => absurd q.2 (by decide))).trans c120
        have c154 : I144 a8 0 = v122 := (f147 _ _ (fun q => absurd q.2 (by decide))).trans c123
        have c155 : I144 a8 11 = v125 := (f147 _ _ (fun q => absurd q.2 (by decide))).trans c126
        have c156 : I144 a8 3 = v128 := (f147 _ _ (fun q => absurd q.2 (by decide))).trans c129
        have c157 : I144 a8 1 = v131 := (f147 _ _ (fun q => by have z := ta8; rw [q.1, ta0] at z; exact absurd z (by decide))).trans c132
        have c158 : I144 a8 9 = v134 := (f147 _ _ (fun q => absurd q.2 (by decide))).trans c135
        have c159 : I144 a8 13 = v137 := (f147 _ _ (fun q => absurd q.2 (by decide))).trans c138
        have c160 : I144 a8 7 = v140 := (f147 _ _ (fun q => absurd q.2 (by decide))).trans c141
        have hO161 : FrO 2 a8 T I0 I144 := hO98.put f147 ta0 (Or.inl (by decide))
        refine tr_aload_n dX10_alp_36 rfl ?_
        refine tr_aload_n dX10_alp_37 rfl ?_
        refine tr_getR dX10_alp_38 fl10_28 (kR1 hS145.1 ta0) ((hS145.rcell ta0 (by decide +kernel)).trans d79) ?_
        refine q_getI dX10_alp_41 fl10_87 (kR7 hS145.1 ta78) c152 ?_
        refine q_putI dX10_alp_44 fl10_90 (kR1 hS145.1 ta0) (Or.inl rfl) hS145 ta0 (iokF rfl) rfl (by decide +kernel) ?_
        intro I162 hS163 e164 f165
        have c166 : I162 a0 16 = v6 := (f165 _ _ (fun q => absurd q.2 (by decide))).trans c149
        have c167 : I162 a0 9 = v10 := (f165 _ _ (fun q => absurd q.2 (by decide))).trans c150
        have c168 : I162 a0 5 = v15 := (f165 _ _ (fun q => absurd q.2 (by decide))).trans c151
        have c169 : I162 a78 15 = v117 := (f165 _ _ (fun q => by have z := ta78; rw [q.1, ta0] at z; exact absurd z (by decide))).trans c152
        have c170 : I162 a8 5 = v119 := (f165 _ _ (fun q => absurd q.2 (by decide))).trans c153
        have c171 : I162 a8 0 = v122 := (f165 _ _ (fun q => absurd q.2 (by decide))).trans c154
        have c172 : I162 a8 11 = v125 := (f165 _ _ (fun q => absurd q.2 (by decide))).trans c155
        have c173 : I162 a8 3 = v128 := (f165 _ _ (fun q => absurd q.2 (by decide))).trans c156
        have c174 : I162 a8 1 = v131 := (f165 _ _ (fun q => absurd q.2 (by decide))).trans c157
        have c175 : I162 a8 9 = v134 := (f165 _ _ (fun q => absurd q.2 (by decide))).trans c158
        have c176 : I162 a8 13 = v137 := (f165 _ _ (fun q => absurd q.2 (by decide))).trans c159
        have c177 : I162 a8 7 = v140 := (f165 _ _ (fun q => absurd q.2 (by decide))).trans c160
        have c178 : I162 a0 1 = v142 := (f165 _ _ (fun q => absurd q.2 (by decide))).trans e146
        have hO179 : FrO 2 a8 T I0 I162 := hO161.put f165 ta0 (Or.inl (by decide))
        refine tr_aload_n dX10_alp_47 rfl ?_
        refine tr_aload_n dX10_alp_48 rfl ?_
        refine tr_getR dX10_alp_49 fl10_28 (kR1 hS163.1 ta0) ((hS163.rcell ta0 (by decide +kernel)).trans d79) ?_
        obtain ⟨v180, c181⟩ : ∃ v, I162 a78 16 = v := ⟨_, rfl⟩
        refine q_getI dX10_alp_52 fl10_91 (kR7 hS163.1 ta78) c181 ?_
        refine q_putI dX10_alp_55 fl10_94 (kR1 hS163.1 ta0) (Or.inl rfl) hS163 ta0 (iokF rfl) rfl (by decide +kernel) ?_
        intro I182 hS183 e184 f185
        have c186 : I182 a0 9 = v10 := (f185 _ _ (fun q => absurd q.2 (by decide))).trans c167
        have c187 : I182 a0 5 = v15 := (f185 _ _ (fun q => absurd q.2 (by decide))).trans c168
        have c188 : I182 a78 15 = v117 := (f185 _ _ (fun q => absurd q.2 (by decide))).trans c169
        have c189 : I182 a8 5 = v119 := (f185 _ _ (fun q => absurd q.2 (by decide))).trans c170
        have c190 : I182 a8 0 = v122 := (f185 _ _ (fun q => absurd q.2 (by decide))).trans c171
        have c191 : I182 a8 11 = v125 := (f185 _ _ (fun q => absurd q.2 (by decide))).trans c172
        have c192 : I182 a8 3 = v128 := (f185 _ _ (fun q => absurd q.2 (by decide))).trans c173
        have c193 : I182 a8 1 = v131 := (f185 _ _ (fun q => absurd q.2 (by decide))).trans c174
        have c194 : I182 a8 9 = v134 := (f185 _ _ (fun q => absurd q.2 (by decide))).trans c175
        have c195 : I182 a8 13 = v137 := (f185 _ _ (fun q => absurd q.2 (by decide))).trans c176
        have c196 : I182 a8 7 = v140 := (f185 _ _ (fun q => absurd q.2 (by decide))).trans c177
        have c197 : I182 a0 1 = v142 := (f185 _ _ (fun q => absurd q.2 (by decide))).trans c178
        have c198 : I182 a0 15 = v117 := (f185 _ _ (fun q => absurd q.2 (by decide))).trans e164
        have c199 : I182 a78 16 = v180 := (f185 _ _ (fun q => by have z := ta78; rw [q.1, ta0] at z; exact absurd z (by decide))).trans c181
        have hO200 : FrO 2 a8 T I0 I182 := hO179.put f185 ta0 (Or.inl (by decide))
        refine tr_iload_n dX10_alp_58 rfl ?_
        refine q_if_ne 68 dX10_alp_59 (by decide) (fun h201 => ?_) (fun h201 => ?_)
        · skip
          refine tr_aload_n dX10_alp_68 rfl ?_
          refine tr_getR dX10_alp_69 fl10_16 (kR1 hS183.1 ta0) d97 ?_
          refine tr_astore_n dX10_alp_72 (by decide) (by decide) ?_
          refine tr_aload_n dX10_alp_73 rfl ?_
          refine tr_aload_n dX10_alp_74 rfl ?_
          refine tr_getR dX10_alp_75 fl10_20 (kR1 hS183.1 ta0) d96 ?_
          refine q_putR dX10_alp_78 fl10_16 (kR1 hS183.1 ta0) (Or.inl rfl) hS183 ta0 (okR_in rfl rfl ta8) rfl (by decide +kernel) ?_
          intro R202 hS203 e204 f205
          have d206 : R202 a0 3 = some a8 := (f205 _ _ (fun q => absurd q.2 (by decide))).trans d96
          refine tr_aload_n dX10_alp_81 rfl ?_
          refine tr_aload_n dX10_alp_82 rfl ?_
          refine q_putR dX10_alp_83 fl10_20 (kR1 hS203.1 ta0) (Or.inl rfl) hS203 ta0 (okR_in rfl rfl ta13) rfl (by decide +kernel) ?_
          intro R207 hS208 e209 f210
          have d211 : R207 a0 2 = some a8 := (f210 _ _ (fun q => absurd q.2 (by decide))).trans e204
          refine tr_aload_n dX10_alp_86 rfl ?_
          refine q_iconst dX10_alp_87 (by decide) ?_
          intro v212 h213
          refine q_putZ dX10_alp_88 fl10_95 (kR1 hS208.1 ta0) (Or.inl rfl) hS208 ta0 (by exact om_d753bc65 h213) (by show (0 : Int) ≤ v212.toInt ∧ v212.toInt ≤ (1 : Int); exact om_d753bc65 h213) rfl (by decide +kernel) ?_
          intro I214 hS215 e216 f217
          have c218 : I214 a0 9 = v10 := (f217 _ _ (fun q => absurd q.2 (by decide))).trans c186
          have c219 : I214 a78 15 = v117 := (f217 _ _ (fun q => absurd q.2 (by decide))).trans c188
          have c220 : I214 a8 5 = v119 := (f217 _ _ (fun q => by have z := ta8; rw [q.1, ta0] at z; exact absurd z (by decide))).trans c189
          have c221 : I214 a8 0 = v122 := (f217 _ _ (fun q => absurd q.2 (by decide))).trans c190
          have c222 : I214 a8 11 = v125 := (f217 _ _ (fun q => absurd q.2 (by decide))).trans c191
          have c223 : I214 a8 3 = v128 := (f217 _ _ (fun q => absurd q.2 (by decide))).trans c192
          have c224 : I214 a8 1 = v131 := (f217 _ _ (fun q => absurd q.2 (by decide))).trans c193
          have c225 : I214 a8 9 = v134 := (f217 _ _ (fun q => absurd q.2 (by decide))).trans c194
          have c226 : I214 a8 13 = v137 := (f217 _ _ (fun q => absurd q.2 (by decide))).trans c195
          have c227 : I214 a8 7 = v140 := (f217 _ _ (fun q => absurd q.2 (by decide))).trans c196
          have c228 : I214 a0 1 = v142 := (f217 _ _ (fun q => absurd q.2 (by decide))).trans c197
          have c229 : I214 a0 15 = v117 := (f217 _ _ (fun q => absurd q.2 (by decide))).trans c198
          have c230 : I214 a78 16 = v180 := (f217 _ _ (fun q => absurd q.2 (by decide))).trans c199
          have c231 : I214 a0 16 = v180 := (f217 _ _ (fun q => absurd q.2 (by decide))).trans e184
          have hO232 : FrO 2 a8 T I0 I214 := hO200.put f217 ta0 (Or.inl (by decide))
          refine tr_aload_n dX10_alp_91 rfl ?_
          obtain ⟨a233, d234, ta233⟩ := rf1_6 hW0 ta0
          refine tr_getR dX10_alp_92 fl10_35 (kR1 hS215.1 ta0) ((hS215.rcell ta0 (by decide +kernel)).trans d234) ?_
          refine q_callVv hE (M' := mX3_clear) (as := []) dX10_alp_95 lk10_99 inX3_clear seX3_clear myX3_clear (by decide) ⟨by decide, by decide⟩ rfl (kR8 hS215.1 ta233) (Nat.le_of_ble_eq_true rfl) rfl rfl (by decide) (by decide) (fk_X3_clear hS215.1  ta233) ?_
          rintro cn' K' N' I235 R236 L237 ⟨rfl, rfl, rfl, rfl, rfl, g238, p241, p242, p243, -⟩
          have hS244 := hS215.tr g238 (by decide +kernel) (by decide +kernel)
          have c245 : I235 a0 9 = v10 := (g238.cell ta0 (by decide +kernel)).trans c218
          have c246 : I235 a78 15 = v117 := (g238.cell ta78 (by decide +kernel)).trans c219
          have c247 : I235 a8 5 = v119 := (g238.cell ta8 (by decide +kernel)).trans c220
          have c248 : I235 a8 0 = v122 := (g238.cell ta8 (by decide +kernel)).trans c221
          have c249 : I235 a8 11 = v125 := (g238.cell ta8 (by decide +kernel)).trans c222
          have c250 : I235 a8 3 = v128 := (g238.cell ta8 (by decide +kernel)).trans c223
          have c251 : I235 a8 1 = v131 := (g238.cell ta8 (by decide +kernel)).trans c224
          have c252 : I235 a8 9 = v134 := (g238.cell ta8 (by decide +kernel)).trans c225
          have c253 : I235 a8 13 = v137 := (g238.cell ta8 (by decide +kernel)).trans c226
          have c254 : I235 a8 7 = v140 := (g238.cell ta8 (by decide +kernel)).trans c227
          have c255 : I235 a0 1 = v142 := (g238.cell ta0 (by decide +kernel)).trans c228
          have c256 : I235 a0 15 = v117 := (g238.cell ta0 (by decide +kernel)).trans c229
          have c257 : I235 a78 16 = v180 := (g238.cell ta78 (by decide +kernel)).trans c230
          have c258 : I235 a0 16 = v180 := (g238.cell ta0 (by decide +kernel)).trans c231
          have c259 : I235 a0 5 = v212 := (g238.cell ta0 (by decide +kernel)).trans e216
          have hO260 : FrO 2 a8 T I0 I235 := hO232.st g238 (by decide +kernel)
          obtain ⟨v261, c262⟩ : ∃ v, I235 a233 0 = v := ⟨_, rfl⟩
          rw [c262] at p241
          obtain ⟨v263, c264⟩ : ∃ v, I235 a233 1 = v := ⟨_, rfl⟩
          have b265 := iv8_1 hS244.1 ta233 c264
          rw [c264] at p242
          obtain ⟨v266, c267⟩ : ∃ v, I235 a233 2 = v := ⟨_, rfl⟩
          have b268 := iv8_2 hS244.1 ta233 c267
          rw [c267] at p243
          refine tr_aload_n dX10_alp_98 rfl ?_
          obtain ⟨a269, d270, ta269⟩ := rf1_7 hW0 ta0
          refine tr_getR dX10_alp_99 fl10_42 (kR1 hS244.1 ta0) ((hS244.rcell ta0 (by decide +kernel)).trans d270) ?_
          refine q_callVv hE (M' := mX6_clear) (as := []) dX10_alp_102 lk10_102 inX6_clear seX6_clear myX6_clear (by decide) ⟨by decide, by decide⟩ rfl (kR11 hS244.1 ta269) (Nat.le_of_ble_eq_true rfl) rfl rfl (by decide) (by decide) (fk_X6_clear hS244.1  ta269) ?_
          rintro cn' K' N' I271 R272 L273 ⟨rfl, rfl, rfl, rfl, rfl, g274, p277, p278, -⟩
          have hS279 := hS244.tr g274 (by decide +kernel) (by decide +kernel)
          have c280 : I271 a0 9 = v10 := (g274.cell ta0 (by decide +kernel)).trans c245
          have c281 : I271 a78 15 = v117 := (g274.cell ta78 (by decide +kernel)).trans c246
          have c282 : I271 a8 5 = v119 := (g274.cell ta8 (by decide +kernel)).trans c247
          have c283 : I271 a8 0 = v122 := (g274.cell ta8 (by decide +kernel)).trans c248
          have c284 : I271 a8 11 = v125 := (g274.cell ta8 (by decide +kernel)).trans c249
          have c285 : I271 a8 3 = v128 := (g274.cell ta8 (by decide +kernel)).trans c250
          have c286 : I271 a8 1 = v131 := (g274.cell ta8 (by decide +kernel)).trans c251
          have c287 : I271 a8 9 = v134 := (g274.cell ta8 (by decide +kernel)).trans c252
          have c288 : I271 a8 13 = v137 := (g274.cell ta8 (by decide +kernel)).trans c253
          have c289 : I271 a8 7 = v140 := (g274.cell ta8 (by decide +kernel)).trans c254
          have c290 : I271 a0 1 = v142 := (g274.cell ta0 (by decide +kernel)).trans c255
          have c291 : I271 a0 15 = v117 := (g274.cell ta0 (by decide +kernel)).trans c256
          have c292 : I271 a78 16 = v180 := (g274.cell ta78 (by decide +kernel)).trans c257
          have c293 : I271 a0 16 = v180 := (g274.cell ta0 (by decide +kernel)).trans c258
          have c294 : I271 a0 5 = v212 := (g274.cell ta0 (by decide +kernel)).trans c259
          have c295 : I271 a233 0 = v261 := (g274.cell ta233 (by decide +kernel)).trans c262
          have c296 : I271 a233 1 = v263 := (g274.cell ta233 (by decide +kernel)).trans c264
          have c297 : I271 a233 2 = v266 := (g274.cell ta233 (by decide +kernel)).trans c267
          have hO298 : FrO 2 a8 T I0 I271 := hO260.st g274 (by decide +kernel)
          obtain ⟨v299, c300⟩ : ∃ v, I271 a269 0 = v := ⟨_, rfl⟩
          have b301 := iv11_0 hS279.1 ta269 c300
          rw [c300] at p277
          obtain ⟨v302, c303⟩ : ∃ v, I271 a269 2 = v := ⟨_, rfl⟩
          have b304 := iv11_2 hS279.1 ta269 c303
          rw [c303] at p278
          refine tr_aload_n dX10_alp_105 rfl ?_
          refine q_callVv hE (M' := mX10_cloudsMoved) (as := []) dX10_alp_106 lk10_103 inX10_cloudsMoved seX10_cloudsMoved myX10_cloudsMoved (by decide) ⟨by decide, by decide⟩ rfl (kR1 hS279.1 ta0) (Nat.le_of_ble_eq_true rfl) rfl rfl (by decide) (by decide) (fk_X10_cloudsMoved hS279.1  ta0) ?_
          rintro cn' K' N' I305 R306 L307 ⟨rfl, rfl, rfl, rfl, rfl, g308, p311, p312, -⟩
          have hS313 := hS279.tr g308 (by decide +kernel) (by decide +kernel)
          have c314 : I305 a78 15 = v117 := (g308.cell ta78 (by decide +kernel)).trans c281
          have c315 : I305 a8 5 = v119 := (g308.cell ta8 (by decide +kernel)).trans c282
          have c316 : I305 a8 0 = v122 := (g308.cell ta8 (by decide +kernel)).trans c283
          have c317 : I305 a8 11 = v125 := (g308.cell ta8 (by decide +kernel)).trans c284
          have c318 : I305 a8 3 = v128 := (g308.cell ta8 (by decide +kernel)).trans c285
          have c319 : I305 a8 1 = v131 := (g308.cell ta8 (by decide +kernel)).trans c286
          have c320 : I305 a8 9 = v134 := (g308.cell ta8 (by decide +kernel)).trans c287
          have c321 : I305 a8 13 = v137 := (g308.cell ta8 (by decide +kernel)).trans c288
          have c322 : I305 a8 7 = v140 := (g308.cell ta8 (by decide +kernel)).trans c289
          have c323 : I305 a0 1 = v142 := (g308.cell ta0 (by decide +kernel)).trans c290
          have c324 : I305 a0 15 = v117 := (g308.cell ta0 (by decide +kernel)).trans c291
          have c325 : I305 a78 16 = v180 := (g308.cell ta78 (by decide +kernel)).trans c292
          have c326 : I305 a0 16 = v180 := (g308.cell ta0 (by decide +kernel)).trans c293
          have c327 : I305 a0 5 = v212 := (g308.cell ta0 (by decide +kernel)).trans c294
          have c328 : I305 a233 0 = v261 := (g308.cell ta233 (by decide +kernel)).trans c295
          have c329 : I305 a233 1 = v263 := (g308.cell ta233 (by decide +kernel)).trans c296
          have c330 : I305 a233 2 = v266 := (g308.cell ta233 (by decide +kernel)).trans c297
          have c331 : I305 a269 0 = v299 := (g308.cell ta269 (by decide +kernel)).trans c300
          have c332 : I305 a269 2 = v302 := (g308.cell ta269 (by decide +kernel)).trans c303
          have hO333 : FrO 2 a8 T I0 I305 := hO298.st g308 (by decide +kernel)
          obtain ⟨v334, c335⟩ : ∃ v, I305 a0 9 = v := ⟨_, rfl⟩
          have b336 := iv1_9 hS313.1 ta0 c335
          rw [c335] at p311
          obtain ⟨v337, c338⟩ : ∃ v, I305 a0 11 = v := ⟨_, rfl⟩
          have b339 := iv1_11 hS313.1 ta0 c338
          rw [c338] at p312
          refine tr_aload_n dX10_alp_109 rfl ?_
          refine tr_aload_n dX10_alp_110 rfl ?_
          refine tr_getR dX10_alp_111 fl10_16 (kR1 hS313.1 ta0) d211 ?_
          refine q_getI dX10_alp_114 fl10_106 (kR2 hS313.1 ta8) c315 ?_
          refine q_callVi hE (M' := mX10_answered) (as := [_]) dX10_alp_117 lk10_109 inX10_answered seX10_answered myX10_answered (by decide) ⟨by decide, by decide⟩ rfl (kR1 hS313.1 ta0) (Nat.le_of_ble_eq_true rfl) rfl rfl (by decide) (by decide) (fk_X10_answered hS313.1  ta0) ?_
          rintro v345 cn' K' N' I340 R341 L342 ⟨rfl, rfl, rfl, rfl, rfl, g343, p346, p347, -⟩
          have hS348 := hS313.tr g343 (by decide +kernel) (by decide +kernel)
          have c349 : I340 a78 15 = v117 := (g343.cell ta78 (by decide +kernel)).trans c314
          have c350 : I340 a8 5 = v119 := (g343.cell ta8 (by decide +kernel)).trans c315
          have c351 : I340 a8 0 = v122 := (g343.cell ta8 (by decide +kernel)).trans c316
          have c352 : I340 a8 11 = v125 := (g343.cell ta8 (by decide +kernel)).trans c317
          have c353 : I340 a8 3 = v128 := (g343.cell ta8 (by decide +kernel)).trans c318
          have c354 : I340 a8 1 = v131 := (g343.cell ta8 (by decide +kernel)).trans c319
          have c355 : I340 a8 9 = v134 := (g343.cell ta8 (by decide +kernel)).trans c320
          have c356 : I340 a8 13 = v137 := (g343.cell ta8 (by decide +kernel)).trans c321
          have c357 : I340 a8 7 = v140 := (g343.cell ta8 (by decide +kernel)).trans c322
          have c358 : I340 a0 1 = v142 := (g343.cell ta0 (by decide +kernel)).trans c323
          have c359 : I340 a0 15 = v117 := (g343.cell ta0 (by decide +kernel)).trans c324
          have c360 : I340 a78 16 = v180 := (g343.cell ta78 (by decide +kernel)).trans c325
          have c361 : I340 a0 16 = v180 := (g343.cell ta0 (by decide +kernel)).trans c326
          have c362 : I340 a0 5 = v212 := (g343.cell ta0 (by decide +kernel)).trans c327
          have c363 : I340 a233 0 = v261 := (g343.cell ta233 (by decide +kernel)).trans c328
          have c364 : I340 a233 1 = v263 := (g343.cell ta233 (by decide +kernel)).trans c329
          have c365 : I340 a233 2 = v266 := (g343.cell ta233 (by decide +kernel)).trans c330
          have c366 : I340 a269 0 = v299 := (g343.cell ta269 (by decide +kernel)).trans c331
          have c367 : I340 a269 2 = v302 := (g343.cell ta269 (by decide +kernel)).trans c332
          have c368 : I340 a0 9 = v334 := (g343.cell ta0 (by decide +kernel)).trans c335
          have c369 : I340 a0 11 = v337 := (g343.cell ta0 (by decide +kernel)).trans c338
          have hO370 : FrO 2 a8 T I0 I340 := hO333.st g343 (by decide +kernel)
          obtain ⟨v371, c372⟩ : ∃ v, I340 a0 17 = v := ⟨_, rfl⟩
          rw [c372] at p347
          exact tr_iret hZ dX10_alp_120 rfl (by decide) (by decide) ⟨v345, rfl, rfl, rfl, rfl, hS348, hL99, (fun dr hd => by obtain rfl := Option.some.inj (d9.symm.trans hd); exact ((((((((((FrK.rf (R := R0) (al := a8) (W := fun _ => True) (T := T)).tr rp87).put f147 ta0 (by decide)).put f165 ta0 (by decide)).put f185 ta0 (by decide)).put f217 ta0 (by decide)).st g238 (by decide +kernel)).st g274 (by decide +kernel)).st g308 (by decide +kernel)).st g343 (by decide +kernel))), (fun dr hd => (Option.some.inj (d9.symm.trans hd)) ▸ hO370), (Or.inr (Or.inl ⟨(by first | done | with_reducible assumption | omega), (by (try rw [c2]); first | done | with_reducible assumption | omega), (by first | done | with_reducible assumption | omega), (by first | done | with_reducible assumption | omega), (by (try rw [c358]); first | done | with_reducible assumption | omega), (by (try rw [c359]); first | done | with_reducible assumption | omega), (by (try rw [c372]); first | done | with_reducible assumption | omega), (by (try rw [c362]); first | done | with_reducible assumption | omega), (fun q0 z0 => by obtain rfl := Option.some.inj ((((hS348.rcell ta0 (by decide +kernel)).trans d234)).symm.trans z0); (try rw [c363]); first | done | with_reducible assumption | omega), (fun q0 z0 => by obtain rfl := Option.some.inj ((((hS348.rcell ta0 (by decide +kernel)).trans d234)).symm.trans z0); (try rw [c364]); first | done | with_reducible assumption | omega), (fun q0 z0 => by obtain rfl := Option.some.inj ((((hS348.rcell ta0 (by decide +kernel)).trans d234)).symm.trans z0); (try rw [c365]); first | done | with_reducible assumption | omega), (fun q0 z0 => by obtain rfl := Option.some.inj ((((hS348.rcell ta0 (by decide +kernel)).trans d270)).symm.trans z0); (try rw [c366]); first | done | with_reducible assumption | omega), (fun q0 z0 => by obtain rfl := Option.some.inj ((((hS348.rcell ta0 (by decide +kernel)).trans d270)).symm.trans z0); (try rw [c367]); first | done | with_reducible assumption | omega), (fun q0 z0 => by obtain rfl := Option.some.inj ((d211).symm.trans z0); (try rw [c351]); first | done | with_reducible assumption | omega), (fun q0 z0 => by obtain rfl := Option.some.inj ((d211).symm.trans z0); (try rw [c352]); first | done | with_reducible assumption | omega), (fun q0 z0 => by obtain rfl := Option.some.inj ((d211).symm.trans z0); (try rw [c353]); first | done | with_reducible assumption | omega), (fun q0 z0 => by obtain rfl := Option.some.inj ((d211).symm.trans z0); (try rw [c354]); first | done | with_reducible assumption | omega), (fun q0 z0 => by obtain rfl := Option.some.inj ((d211).symm.trans z0); (try rw [c350]); first | done | with_reducible assumption | omega), (fun q0 z0 => by obtain rfl := Option.some.inj ((d211).symm.trans z0); (try rw [c355]); first | done | with_reducible assumption | omega), (fun q0 z0 => by obtain rfl := Option.some.inj ((d211).symm.trans z0); (try rw [c356]); first | done | with_reducible assumption | omega), ⟨(d211).trans (d9).symm, (e209).trans (d14).symm⟩, (fun dr hd hD => by obtain rfl := Option.some.inj (d9.symm.trans hd); exact AlC.kp (rp112 (hD)) hW0 ta8 (((g343.cell ta8 (wm_no (by decide +kernel))).trans ((g308.cell ta8 (wm_no (by decide +kernel))).trans ((g274.cell ta8 (wm_no (by decide +kernel))).trans ((g238.cell ta8 (wm_no (by decide +kernel))).trans ((f217 _ _ (fun q => by have z := ta8; rw [q.1, ta0] at z; exact absurd z (by decide))).trans ((f185 _ _ (fun q => by have z := ta8; rw [q.1, ta0] at z; exact absurd z (by decide))).trans ((f165 _ _ (fun q => by have z := ta8; rw [q.1, ta0] at z; exact absurd z (by decide))).trans (f147 _ _ (fun q => by have z := ta8; rw [q.1, ta0] at z; exact absurd z (by decide))))))))))) (show RoF rdc T _ _ from (((((((((RoF.rf (ex := rdc) (T := T)).put f147 ta0 (by decide)).put f165 ta0 (by decide)).put f185 ta0 (by decide)).put f217 ta0 (by decide)).tr (RoF.st g238 (by decide +kernel))).tr (RoF.st g274 (by decide +kernel))).tr (RoF.st g308 (by decide +kernel))).tr (RoF.st g343 (by decide +kernel))))), (by rw [c368]; exact om_29f55913 p311), trivial⟩)), trivial⟩
        · skip
          exfalso; exact om_3624102b p100 h201
      · skip
        obtain ⟨v373, c374⟩ : ∃ v, I80 a78 15 = v := ⟨_, rfl⟩
        rw [c374] at p115
        obtain ⟨v375, c376⟩ : ∃ v, I80 a78 16 = v := ⟨_, rfl⟩
        rw [c376] at p116
        refine tr_istore_n dX10_alp_30 (by decide) (by decide) ?_
        refine tr_aload_n dX10_alp_31 rfl ?_
        refine q_iconst dX10_alp_32 (by decide) ?_
        intro v377 h378
        refine q_putI dX10_alp_33 fl10_71 (kR1 hS90.1 ta0) (Or.inl rfl) hS90 ta0 (by show (0 : Int) ≤ v377.toInt ∧ v377.toInt ≤ (900 : Int); exact om_d84473bb h378) rfl (by decide +kernel) ?_
        intro I379 hS380 e381 f382
        have c383 : I379 a0 15 = v4 := (f382 _ _ (fun q => absurd q.2 (by decide))).trans c92
        have c384 : I379 a0 16 = v6 := (f382 _ _ (fun q => absurd q.2 (by decide))).trans c93
        have c385 : I379 a0 9 = v10 := (f382 _ _ (fun q => absurd q.2 (by decide))).trans c94
        have c386 : I379 a0 5 = v15 := (f382 _ _ (fun q => absurd q.2 (by decide))).trans c95
        have c387 : I379 a78 15 = v373 := (f382 _ _ (fun q => absurd q.2 (by decide))).trans c374
        have c388 : I379 a78 16 = v375 := (f382 _ _ (fun q => absurd q.2 (by decide))).trans c376
        have hO389 : FrO 2 a8 T I0 I379 := hO98.put f382 ta0 (Or.inl (by decide))
        refine tr_aload_n dX10_alp_36 rfl ?_
        refine tr_aload_n dX10_alp_37 rfl ?_
        refine tr_getR dX10_alp_38 fl10_28 (kR1 hS380.1 ta0) ((hS380.rcell ta0 (by decide +kernel)).trans d79) ?_
        refine q_getI dX10_alp_41 fl10_87 (kR7 hS380.1 ta78) c387 ?_
        refine q_putI dX10_alp_44 fl10_90 (kR1 hS380.1 ta0) (Or.inl rfl) hS380 ta0 (iokF rfl) rfl (by decide +kernel) ?_
        intro I390 hS391 e392 f393
        have c394 : I390 a0 16 = v6 := (f393 _ _ (fun q => absurd q.2 (by decide))).trans c384
        have c395 : I390 a0 9 = v10 := (f393 _ _ (fun q => absurd q.2 (by decide))).trans c385
        have c396 : I390 a0 5 = v15 := (f393 _ _ (fun q => absurd q.2 (by decide))).trans c386
        have c397 : I390 a78 15 = v373 := (f393 _ _ (fun q => by have z := ta78; rw [q.1, ta0] at z; exact absurd z (by decide))).trans c387
        have c398 : I390 a78 16 = v375 := (f393 _ _ (fun q => absurd q.2 (by decide))).trans c388
        have c399 : I390 a0 1 = v377 := (f393 _ _ (fun q => absurd q.2 (by decide))).trans e381
        have hO400 : FrO 2 a8 T I0 I390 := hO389.put f393 ta0 (Or.inl (by decide))
        refine tr_aload_n dX10_alp_47 rfl ?_
        refine tr_aload_n dX10_alp_48 rfl ?_
        refine tr_getR dX10_alp_49 fl10_28 (kR1 hS391.1 ta0) ((hS391.rcell ta0 (by decide +kernel)).trans d79) ?_
        refine q_getI dX10_alp_52 fl10_91 (kR7 hS391.1 ta78) c398 ?_
        refine q_putI dX10_alp_55 fl10_94 (kR1 hS391.1 ta0) (Or.inl rfl) hS391 ta0 (iokF rfl) rfl (by decide +kernel) ?_
        intro I401 hS402 e403 f404
        have c405 : I401 a0 9 = v10 := (f404 _ _ (fun q => absurd q.2 (by decide))).trans c395
        have c406 : I401 a0 5 = v15 := (f404 _ _ (fun q => absurd q.2 (by decide))).trans c396
        have c407 : I401 a78 15 = v373 := (f404 _ _ (fun q => absurd q.2 (by decide))).trans c397
        have c408 : I401 a78 16 = v375 := (f404 _ _ (fun q => by have z := ta78; rw [q.1, ta0] at z; exact absurd z (by decide))).trans c398
        have c409 : I401 a0 1 = v377 := (f404 _ _ (fun q => absurd q.2 (by decide))).trans c399
        have c410 : I401 a0 15 = v373 := (f404 _ _ (fun q => absurd q.2 (by decide))).trans e392
        have hO411 : FrO 2 a8 T I0 I401 := hO400.put f404 ta0 (Or.inl (by decide))
        refine tr_iload_n dX10_alp_58 rfl ?_
        refine q_if_ne 68 dX10_alp_59 (by decide) (fun h412 => ?_) (fun h412 => ?_)
        · skip
          exfalso; exact om_3a97d4a5 p113 h412
        · skip
          refine tr_aload_n dX10_alp_62 rfl ?_
          refine q_iconst dX10_alp_63 (by decide) ?_
          intro v413 h414
          refine q_callVi hE (M' := mX10_refused) (as := [_]) dX10_alp_64 lk10_79 inX10_refused seX10_refused myX10_refused (by decide) ⟨by decide, by decide⟩ rfl (kR1 hS402.1 ta0) (Nat.le_of_ble_eq_true rfl) rfl rfl (by decide) (by decide) (fk_X10_refused hS402.1  ta0) ?_
          rintro v420 cn' K' N' I415 R416 L417 ⟨rfl, rfl, rfl, rfl, rfl, g418, p421, p422, -⟩
          have hS423 := hS402.tr g418 (by decide +kernel) (by decide +kernel)
          have c424 : I415 a0 9 = v10 := (g418.cell ta0 (by decide +kernel)).trans c405
          have c425 : I415 a0 5 = v15 := (g418.cell ta0 (by decide +kernel)).trans c406
          have c426 : I415 a78 15 = v373 := (g418.cell ta78 (by decide +kernel)).trans c407
          have c427 : I415 a78 16 = v375 := (g418.cell ta78 (by decide +kernel)).trans c408
          have c428 : I415 a0 1 = v377 := (g418.cell ta0 (by decide +kernel)).trans c409
          have c429 : I415 a0 15 = v373 := (g418.cell ta0 (by decide +kernel)).trans c410
          have c430 : I415 a0 16 = v375 := (g418.cell ta0 (by decide +kernel)).trans e403
          have hO431 : FrO 2 a8 T I0 I415 := hO411.st g418 (by decide +kernel)
          obtain ⟨v432, c433⟩ : ∃ v, I415 a0 17 = v := ⟨_, rfl⟩
          rw [c433] at p422
          obtain ⟨a434, d435, ta434⟩ := rf1_6 hW0 ta0
          obtain ⟨v436, c437⟩ : ∃ v, I415 a434 0 = v := ⟨_, rfl⟩
          obtain ⟨v438, c439⟩ : ∃ v, I415 a434 1 = v := ⟨_, rfl⟩
          have b440 := iv8_1 hS423.1 ta434 c439
          obtain ⟨v441, c442⟩ : ∃ v, I415 a434 2 = v := ⟨_, rfl⟩
          have b443 := iv8_2 hS423.1 ta434 c442
          obtain ⟨a444, d445, ta444⟩ := rf1_7 hW0 ta0
          obtain ⟨v446, c447⟩ : ∃ v, I415 a444 0 = v := ⟨_, rfl⟩
          have b448 := iv11_0 hS423.1 ta444 c447
          obtain ⟨v449, c450⟩ : ∃ v, I415 a444 2 = v := ⟨_, rfl⟩
          have b451 := iv11_2 hS423.1 ta444 c450
          obtain ⟨v452, c453⟩ : ∃ v, I415 a13 0 = v := ⟨_, rfl⟩
          have b454 := iv2_0 hS423.1 ta13 c453
          obtain ⟨v455, c456⟩ : ∃ v, I415 a13 11 = v := ⟨_, rfl⟩
          have b457 := iv2_11 hS423.1 ta13 c456
          obtain ⟨v458, c459⟩ : ∃ v, I415 a13 3 = v := ⟨_, rfl⟩
          have b460 := iv2_3 hS423.1 ta13 c459
          obtain ⟨v461, c462⟩ : ∃ v, I415 a13 1 = v := ⟨_, rfl⟩
          have b463 := iv2_1 hS423.1 ta13 c462
          obtain ⟨v464, c465⟩ : ∃ v, I415 a13 5 = v := ⟨_, rfl⟩
          have b466 := iv2_5 hS423.1 ta13 c465
          obtain ⟨v467, c468⟩ : ∃ v, I415 a13 9 = v := ⟨_, rfl⟩
          have b469 := iv2_9 hS423.1 ta13 c468
          obtain ⟨v470, c471⟩ : ∃ v, I415 a13 13 = v := ⟨_, rfl⟩
          have b472 := iv2_13 hS423.1 ta13 c471
          exact tr_iret hZ dX10_alp_67 rfl (by decide) (by decide) ⟨v420, rfl, rfl, rfl, rfl, hS423, hL99, (fun dr hd => by obtain rfl := Option.some.inj (d9.symm.trans hd); exact ((((((FrK.rf (R := R0) (al := a8) (W := fun _ => True) (T := T)).tr rp87).put f382 ta0 (by decide)).put f393 ta0 (by decide)).put f404 ta0 (by decide)).st g418 (by decide +kernel))), (fun dr hd => (Option.some.inj (d9.symm.trans hd)) ▸ hO431), (Or.inr (Or.inr (⟨(by first | done | with_reducible assumption | omega), (by (try rw [c2]); first | done | with_reducible assumption | omega), (by first | done | with_reducible assumption | omega), (by first | done | with_reducible assumption | omega), (by (try rw [c428]); first | done | with_reducible assumption | omega), (by (try rw [c429]); first | done | with_reducible assumption | omega), (by (try rw [c430]); first | done | with_reducible assumption | omega), (by (try rw [c433]); first | done | with_reducible assumption | exact om_7c28df22 h414 p422), ⟨(d97).trans (d14).symm, (d96).trans (d9).symm⟩, ⟨fun a j h => by rcases h with h | h | h; exact ((g418.cell h (wm_no (by decide +kernel))).trans ((f404 _ _ (fun q => by have z := h; rw [q.1, ta0] at z; exact absurd z (by decide))).trans ((f393 _ _ (fun q => by have z := h; rw [q.1, ta0] at z; exact absurd z (by decide))).trans ((f382 _ _ (fun q => by have z := h; rw [q.1, ta0] at z; exact absurd z (by decide))).trans (g83.cell h (wm_no (by decide +kernel))))))); exact ((g418.cell h (wm_no (by decide +kernel))).trans ((f404 _ _ (fun q => by have z := h; rw [q.1, ta0] at z; exact absurd z (by decide))).trans ((f393 _ _ (fun q => by have z := h; rw [q.1, ta0] at z; exact absurd z (by decide))).trans ((f382 _ _ (fun q => by have z := h; rw [q.1, ta0] at z; exact absurd z (by decide))).trans (g83.cell h (wm_no (by decide +kernel))))))); exact ((g418.cell h (wm_no (by decide +kernel))).trans ((f404 _ _ (fun q => by have z := h; rw [q.1, ta0] at z; exact absurd z (by decide))).trans ((f393 _ _ (fun q => by have z := h; rw [q.1, ta0] at z; exact absurd z (by decide))).trans ((f382 _ _ (fun q => by have z := h; rw [q.1, ta0] at z; exact absurd z (by decide))).trans (g83.cell h (wm_no (by decide +kernel))))))), (c425).trans (c16).symm⟩, (by rw [c424, c11]; first | done | omega), trivial⟩))), trivial⟩
    · skip
      refine tr_aload_n dX10_alp_12 rfl ?_
      refine q_iconst dX10_alp_13 (by decide) ?_
      intro v473 h474
      refine q_callVi hE (M' := mX10_refused) (as := [_]) dX10_alp_14 lk10_79 inX10_refused seX10_refused myX10_refused (by decide) ⟨by decide, by decide⟩ rfl (kR1 hS0.1 ta0) (Nat.le_of_ble_eq_true rfl) rfl rfl (by decide) (by decide) (fk_X10_refused hS0.1  ta0) ?_
      rintro v480 cn' K' N' I475 R476 L477 ⟨rfl, rfl, rfl, rfl, rfl, g478, p481, p482, -⟩
      have hS483 := hS0.tr g478 (by decide +kernel) (by decide +kernel)
      have c484 : I475 a0 1 = v1 := (g478.cell ta0 (by decide +kernel)).trans c2
      have c485 : I475 a0 15 = v4 := (g478.cell ta0 (by decide +kernel)).trans c5
      have c486 : I475 a0 16 = v6 := (g478.cell ta0 (by decide +kernel)).trans c7
      have c487 : I475 a0 9 = v10 := (g478.cell ta0 (by decide +kernel)).trans c11
      have c488 : I475 a0 5 = v15 := (g478.cell ta0 (by decide +kernel)).trans c16
      have hO489 : FrO 2 a8 T I0 I475 := hO0.st g478 (by decide +kernel)
      obtain ⟨v490, c491⟩ : ∃ v, I475 a0 17 = v := ⟨_, rfl⟩
      rw [c491] at p482
      obtain ⟨a492, d493, ta492⟩ := rf1_6 hW0 ta0
      obtain ⟨v494, c495⟩ : ∃ v, I475 a492 0 = v := ⟨_, rfl⟩
      obtain ⟨v496, c497⟩ : ∃ v, I475 a492 1 = v := ⟨_, rfl⟩
      have b498 := iv8_1 hS483.1 ta492 c497
      obtain ⟨v499, c500⟩ : ∃ v, I475 a492 2 = v := ⟨_, rfl⟩
      have b501 := iv8_2 hS483.1 ta492 c500
      obtain ⟨a502, d503, ta502⟩ := rf1_7 hW0 ta0
      obtain ⟨v504, c505⟩ : ∃ v, I475 a502 0 = v := ⟨_, rfl⟩
      have b506 := iv11_0 hS483.1 ta502 c505
      obtain ⟨v507, c508⟩ : ∃ v, I475 a502 2 = v := ⟨_, rfl⟩
      have b509 := iv11_2 hS483.1 ta502 c508
      obtain ⟨v510, c511⟩ : ∃ v, I475 a13 0 = v := ⟨_, rfl⟩
      have b512 := iv2_0 hS483.1 ta13 c511
      obtain ⟨v513, c514⟩ : ∃ v, I475 a13 11 = v := ⟨_, rfl⟩
      have b515 := iv2_11 hS483.1 ta13 c514
      obtain ⟨v516, c517⟩ : ∃ v, I475 a13 3 = v := ⟨_, rfl⟩
      have b518 := iv2_3 hS483.1 ta13 c517
      obtain ⟨v519, c520⟩ : ∃ v, I475 a13 1 = v := ⟨_, rfl⟩
      have b521 := iv2_1 hS483.1 ta13 c520
      obtain ⟨v522, c523⟩ : ∃ v, I475 a13 5 = v := ⟨_, rfl⟩
      have b524 := iv2_5 hS483.1 ta13 c523
      obtain ⟨v525, c526⟩ : ∃ v, I475 a13 9 = v := ⟨_, rfl⟩
      have b527 := iv2_9 hS483.1 ta13 c526
      obtain ⟨v528, c529⟩ : ∃ v, I475 a13 13 = v := ⟨_, rfl⟩
      have b530 := iv2_13 hS483.1 ta13 c529
      exact tr_iret hZ dX10_alp_17 rfl (by decide) (by decide) ⟨v480, rfl, rfl, rfl, rfl, hS483, hL0, (fun dr hd => by obtain rfl := Option.some.inj (d9.symm.trans hd); exact ((FrK.rf (R := R0) (al := a8) (W := fun _ => True) (T := T)).st g478 (by decide +kernel))), (fun dr hd => (Option.some.inj (d9.symm.trans hd)) ▸ hO489), (Or.inl ⟨(by (try rw [c2]); first | done | with_reducible assumption | exact om_9e558c0d h77), (by first | done | with_reducible assumption | omega), (by (try rw [c484]); (try rw [c2]); first | done | with_reducible assumption | omega), (by (try rw [c485]); (try rw [c5]); first | done | with_reducible assumption | omega), (by (try rw [c486]); (try rw [c7]); first | done | with_reducible assumption | omega), (by (try rw [c491]); first | done | with_reducible assumption | exact om_85972af0 h474 p482), ⟨(d14).trans (d14).symm, (d9).trans (d9).symm⟩, ⟨fun a j h => by rcases h with h | h | h; exact (g478.cell h (wm_no (by decide +kernel))); exact (g478.cell h (wm_no (by decide +kernel))); exact (g478.cell h (wm_no (by decide +kernel))), (c488).trans (c16).symm⟩, (by rw [c487, c11]; first | done | omega), trivial⟩), trivial⟩
