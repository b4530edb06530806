def wik_X10_alp : List Nat := [65, 69, 73, 75, 79, 80, 81, 128, 129, 131, 133, 135, 137, 139, 141, 192, 193, 194, 195, 256, 257, 258, 259, 260, 261, 320, 321, 322, 323, 384, 449, 450, 451, 452, 454, 455, 456, 457, 459, 460, 463, 464, 512, 513, 514, 704, 706, 1215, 1343, 1599]
def wrk_X10_alp : List Nat := [66, 67, 458]
def wlk_X10_alp : List Nat := [453, 1663, 1727]
set_option maxHeartbeats 4000000 in
theorem fk_X10_alp {l : Launch} {T : Nat → Nat} {cn : Nat} {K N : Nat → Nat} {I0 : cz_I} {R0 : cz_R} {L0 : cz_L} {d : Int} (hW0 : Wf T cn K N I0 R0 d) (gT : Nat → Int32) {a0 : Nat} (ta0 : T a0 = 1) {x1 : Int32} (hY : ∀ t, R0 a0 0 = some t → ∀ k : Nat, k < 900 → I0 t k = gT k) (hU : ∀ r, R0 a0 4 = some r → R0 r 0 = R0 a0 0) : ConE l mX10_alp [.ref a0, .int x1] cn K N I0 R0 L0 (ca_i (fun v cn' K' N' I' R' L' => cn = cn' ∧ K = K' ∧ N = N' ∧ St T cn K N d wik_X10_alp wrk_X10_alp I0 R0 I' R' ∧ LgS T wlk_X10_alp L0 L' ∧ (∀ dr, R0 a0 3 = some dr → FrK R0 dr (fun _ => True) T I0 I') ∧ (∀ dr, R0 a0 3 = some dr → FrO 2 dr T I0 I') ∧ ((((x1.toInt < 0 ∨ x1.toInt > (I0 a0 1).toInt)) ∧ (v.toInt = -1) ∧ ((I' a0 1).toInt = (I0 a0 1).toInt) ∧ ((I' a0 15).toInt = (I0 a0 15).toInt) ∧ ((I' a0 16).toInt = (I0 a0 16).toInt) ∧ ((I' a0 17).toInt = 2) ∧ (R' a0 2 = R0 a0 2 ∧ R' a0 3 = R0 a0 3) ∧ ((∀ a j, T a = 8 ∨ T a = 10 ∨ T a = 11 → I' a j = I0 a j) ∧ I' a0 5 = I0 a0 5) ∧ True) ∨ ((0 ≤ x1.toInt) ∧ (x1.toInt ≤ (I0 a0 1).toInt) ∧ ((lsF (gT, x1.toInt) 901 0 Q00) = 0) ∧ (v.toInt = (lsC (gT, x1.toInt) 901 0 Q00)) ∧ ((I' a0 1).toInt = 0) ∧ ((I' a0 15).toInt = 0) ∧ ((I' a0 17).toInt = 0) ∧ ((I' a0 5).toInt = 1) ∧ (∀ b1, R' a0 6 = some b1 → (I' b1 0).toInt = 0) ∧ (∀ b1, R' a0 6 = some b1 → (I' b1 1).toInt = 0) ∧ (∀ b1, R' a0 6 = some b1 → (I' b1 2).toInt = 0) ∧ (∀ b1, R' a0 7 = some b1 → (I' b1 0).toInt = 0) ∧ (∀ b1, R' a0 7 = some b1 → (I' b1 2).toInt = 0) ∧ (∀ b1, R' a0 2 = some b1 → (I' b1 0).toInt = (lsA0 (gT, x1.toInt) 901 0 Q00)) ∧ (∀ b1, R' a0 2 = some b1 → (I' b1 11).toInt = (lsA5 (gT, x1.toInt) 901 0 Q00)) ∧ (∀ b1, R' a0 2 = some b1 → (I' b1 3).toInt = (lsA2 (gT, x1.toInt) 901 0 Q00)) ∧ (∀ b1, R' a0 2 = some b1 → (I' b1 1).toInt = (lsA1 (gT, x1.toInt) 901 0 Q00)) ∧ (∀ b1, R' a0 2 = some b1 → (I' b1 5).toInt = (lsA3 (gT, x1.toInt) 901 0 Q00)) ∧ (∀ b1, R' a0 2 = some b1 → (I' b1 9).toInt = (lsA4 (gT, x1.toInt) 901 0 Q00)) ∧ (∀ b1, R' a0 2 = some b1 → (I' b1 13).toInt = (lsA6 (gT, x1.toInt) 901 0 Q00)) ∧ (R' a0 2 = R0 a0 3 ∧ R' a0 3 = R0 a0 2) ∧ (∀ dr, R0 a0 3 = some dr → AlT R0 dr → AlC I' R0 dr (cnt (gT, x1.toInt)) (lsE (gT, x1.toInt) 901 0 Q00 E00)) ∧ True) ∨ ((0 ≤ x1.toInt) ∧ (x1.toInt ≤ (I0 a0 1).toInt) ∧ ((lsF (gT, x1.toInt) 901 0 Q00) ≠ 0) ∧ (v.toInt = -1) ∧ ((I' a0 1).toInt = 0) ∧ ((I' a0 15).toInt = (lsF (gT, x1.toInt) 901 0 Q00)) ∧ ((I' a0 16).toInt = (lsP (gT, x1.toInt) 901 0 Q00)) ∧ ((I' a0 17).toInt = 4) ∧ (R' a0 2 = R0 a0 2 ∧ R' a0 3 = R0 a0 3) ∧ ((∀ a j, T a = 8 ∨ T a = 10 ∨ T a = 11 → I' a j = I0 a j) ∧ I' a0 5 = I0 a0 5) ∧ True)) ∧ True)) := by
  refine ConE.of (by decide +kernel) rfl (Nat.le_of_ble_eq_true rfl) rfl (fun X hX hZ hE => ?_)
  subst hX
  have hS0 : St T cn K N d wik_X10_alp wrk_X10_alp I0 R0 I0 R0 := St.rf0 hW0
  have hL0 : LgS T wlk_X10_alp L0 L0 := LgS.rf0
  obtain ⟨v1, c2⟩ : ∃ v, I0 a0 1 = v := ⟨_, rfl⟩
  have b3 := iv1_1 hS0.1 ta0 c2
  obtain ⟨v4, c5⟩ : ∃ v, I0 a0 15 = v := ⟨_, rfl⟩
  obtain ⟨v6, c7⟩ : ∃ v, I0 a0 16 = v := ⟨_, rfl⟩
  obtain ⟨a8, d9, ta8⟩ := rf1_3 hS0.1 ta0
  have hO0 : FrO 2 a8 T I0 I0 := FrO.rf
  obtain ⟨a10, d11, ta10⟩ := rf1_2 hS0.1 ta0
  obtain ⟨v12, c13⟩ : ∃ v, I0 a0 5 = v := ⟨_, rfl⟩
  have b14 := iv1_5 hS0.1 ta0 c13
  refine tr_iload_n dX10_alp_0 rfl ?_
  refine q_if_lt 12 dX10_alp_1 (by decide) (fun h15 => ?_) (fun h15 => ?_)
  · skip
    refine tr_aload_n dX10_alp_12 rfl ?_
    refine q_iconst dX10_alp_13 (by decide) ?_
    intro v16 h17
    refine q_callVi hE (M' := mX10_refused) (as := [_]) dX10_alp_14 lk10_79 inX10_refused seX10_refused myX10_refused (by decide) ⟨by decide, by decide⟩ rfl (kR1 hS0.1 ta0) (Nat.le_of_ble_eq_true rfl) rfl rfl (by decide) (by decide) (fk_X10_refused hS0.1  ta0) ?_
    rintro v23 cn' K' N' I18 R19 L20 ⟨rfl, rfl, rfl, rfl, rfl, g21, p24, p25, -⟩
    have hS26 := hS0.tr g21 (by decide +kernel) (by decide +kernel)
    have c27 : I18 a0 1 = v1 := (g21.cell ta0 (by decide +kernel)).trans c2
    have c28 : I18 a0 15 = v4 := (g21.cell ta0 (by decide +kernel)).trans c5
    have c29 : I18 a0 16 = v6 := (g21.cell ta0 (by decide +kernel)).trans c7
    have c30 : I18 a0 5 = v12 := (g21.cell ta0 (by decide +kernel)).trans c13
    have hO31 : FrO 2 a8 T I0 I18 := hO0.st g21 (by decide +kernel)
    obtain ⟨v32, c33⟩ : ∃ v, I18 a0 17 = v := ⟨_, rfl⟩
    rw [c33] at p25
    obtain ⟨a34, d35, ta34⟩ := rf1_6 hW0 ta0
    obtain ⟨v36, c37⟩ : ∃ v, I18 a34 0 = v := ⟨_, rfl⟩
    obtain ⟨v38, c39⟩ : ∃ v, I18 a34 1 = v := ⟨_, rfl⟩
    have b40 := iv8_1 hS26.1 ta34 c39
    obtain ⟨v41, c42⟩ : ∃ v, I18 a34 2 = v := ⟨_, rfl⟩
    have b43 := iv8_2 hS26.1 ta34 c42
    obtain ⟨a44, d45, ta44⟩ := rf1_7 hW0 ta0
    obtain ⟨v46, c47⟩ : ∃ v, I18 a44 0 = v := ⟨_, rfl⟩
    have b48 := iv11_0 hS26.1 ta44 c47
    obtain ⟨v49, c50⟩ : ∃ v, I18 a44 2 = v := ⟨_, rfl⟩
    have b51 := iv11_2 hS26.1 ta44 c50
    obtain ⟨v52, c53⟩ : ∃ v, I18 a10 0 = v := ⟨_, rfl⟩
    have b54 := iv2_0 hS26.1 ta10 c53
    obtain ⟨v55, c56⟩ : ∃ v, I18 a10 11 = v := ⟨_, rfl⟩
    have b57 := iv2_11 hS26.1 ta10 c56
    obtain ⟨v58, c59⟩ : ∃ v, I18 a10 3 = v := ⟨_, rfl⟩
    have b60 := iv2_3 hS26.1 ta10 c59
    obtain ⟨v61, c62⟩ : ∃ v, I18 a10 1 = v := ⟨_, rfl⟩
    have b63 := iv2_1 hS26.1 ta10 c62
    obtain ⟨v64, c65⟩ : ∃ v, I18 a10 5 = v := ⟨_, rfl⟩
    have b66 := iv2_5 hS26.1 ta10 c65
    obtain ⟨v67, c68⟩ : ∃ v, I18 a10 9 = v := ⟨_, rfl⟩
    have b69 := iv2_9 hS26.1 ta10 c68
    obtain ⟨v70, c71⟩ : ∃ v, I18 a10 13 = v := ⟨_, rfl⟩
    have b72 := iv2_13 hS26.1 ta10 c71
    exact tr_iret hZ dX10_alp_17 rfl (by decide) (by decide) ⟨v23, rfl, rfl, rfl, rfl, hS26, hL0, (fun dr hd => by obtain rfl := Option.some.inj (d9.symm.trans hd); exact ((FrK.rf (R := R0) (al := a8) (W := fun _ => True) (T := T)).st g21 (by decide +kernel))), (fun dr hd => (Option.some.inj (d9.symm.trans hd)) ▸ hO31), (Or.inl ⟨(by (try rw [c2]); first | done | with_reducible assumption | omega), (by first | done | with_reducible assumption | omega), (by (try rw [c27]); (try rw [c2]); first | done | with_reducible assumption | omega), (by (try rw [c28]); (try rw [c5]); first | done | with_reducible assumption | omega), (by (try rw [c29]); (try rw [c7]); first | done | with_reducible assumption | omega), (by (try rw [c33]); first | done | with_reducible assumption | omega), ⟨(d11).trans (d11).symm, (d9).trans (d9).symm⟩, ⟨fun a j h => by rcases h with h | h | h; exact (g21.cell h (wm_no (by decide +kernel))); exact (g21.cell h (wm_no (by decide +kernel))); exact (g21.cell h (wm_no (by decide +kernel))), (c30).trans (c13).symm⟩, trivial⟩), trivial⟩
  · skip
    refine tr_iload_n dX10_alp_4 rfl ?_
    refine tr_aload_n dX10_alp_5 rfl ?_
    refine q_getI dX10_alp_6 fl10_71 (kR1 hS0.1 ta0) c2 ?_
    refine q_icmp_le 18 dX10_alp_9 (by decide) (fun h73 => ?_) (fun h73 => ?_)
    · skip
      refine tr_aload_n dX10_alp_18 rfl ?_
      obtain ⟨a74, d75, ta74⟩ := rf1_4 hW0 ta0
      refine tr_getR dX10_alp_19 fl10_28 (kR1 hS0.1 ta0) d75 ?_
      refine tr_aload_n dX10_alp_22 rfl ?_
      refine tr_getR dX10_alp_23 fl10_20 (kR1 hS0.1 ta0) d9 ?_
      refine tr_iload_n dX10_alp_26 rfl ?_
      refine q_callVi hE (M' := mX7_readAll) (as := [_, _]) dX10_alp_27 lk10_83 inX7_readAll seX7_readAll myX7_readAll (by decide) ⟨by decide, by decide⟩ rfl (kR7 hS0.1 ta74) (Nat.le_of_ble_eq_true rfl) rfl rfl (by decide) (by decide) (fk_X7_readAll hS0.1 ((gT, x1.toInt)) ta74 ta8 (by omega) (Tx.ec hY hU d75 (by omega) (by omega)) (by first | done | with_reducible assumption | omega)) ?_
      rintro v81 cn' K' N' I76 R77 L78 ⟨rfl, rfl, rfl, g79, gl80, h82, rp83, rp84, dj85, -⟩
      have hS86 := hS0.tr g79 (by decide +kernel) (by decide +kernel)
      have c87 : I76 a0 1 = v1 := (g79.cell ta0 (by decide +kernel)).trans c2
      have c88 : I76 a0 15 = v4 := (g79.cell ta0 (by decide +kernel)).trans c5
      have c89 : I76 a0 16 = v6 := (g79.cell ta0 (by decide +kernel)).trans c7
      have c90 : I76 a0 5 = v12 := (g79.cell ta0 (by decide +kernel)).trans c13
      have d91 : R77 a0 3 = some a8 := (g79.rcell ta0 (by decide +kernel)).trans d9
      have d92 : R77 a0 2 = some a10 := (g79.rcell ta0 (by decide +kernel)).trans d11
      have hO93 : FrO 2 a8 T I0 I76 := hO0.tr rp84
      have hL94 := hL0.tr gl80 (by decide +kernel)
      rcases dj85 with ⟨p95, p96, p97, p98, p99, p100, p101, p102, p103, p104, p105, p106, rp107, -⟩ | ⟨p108, p109, p110, p111, -⟩
      · skip
        obtain ⟨v112, c113⟩ : ∃ v, I76 a74 15 = v := ⟨_, rfl⟩
        rw [c113] at p97
        obtain ⟨v114, c115⟩ : ∃ v, I76 a8 5 = v := ⟨_, rfl⟩
        have b116 := iv2_5 hS86.1 ta8 c115
        rw [c115] at p98
        obtain ⟨v117, c118⟩ : ∃ v, I76 a8 0 = v := ⟨_, rfl⟩
        have b119 := iv2_0 hS86.1 ta8 c118
        rw [c118] at p99
        obtain ⟨v120, c121⟩ : ∃ v, I76 a8 11 = v := ⟨_, rfl⟩
        have b122 := iv2_11 hS86.1 ta8 c121
        rw [c121] at p100
        obtain ⟨v123, c124⟩ : ∃ v, I76 a8 3 = v := ⟨_, rfl⟩
        have b125 := iv2_3 hS86.1 ta8 c124
        rw [c124] at p101
        obtain ⟨v126, c127⟩ : ∃ v, I76 a8 1 = v := ⟨_, rfl⟩
        have b128 := iv2_1 hS86.1 ta8 c127
        rw [c127] at p102
        rw [c115] at p103
        obtain ⟨v129, c130⟩ : ∃ v, I76 a8 9 = v := ⟨_, rfl⟩
        have b131 := iv2_9 hS86.1 ta8 c130
        rw [c130] at p104
        obtain ⟨v132, c133⟩ : ∃ v, I76 a8 13 = v := ⟨_, rfl⟩
        have b134 := iv2_13 hS86.1 ta8 c133
        rw [c133] at p105
        obtain ⟨v135, c136⟩ : ∃ v, I76 a8 7 = v := ⟨_, rfl⟩
        rw [c136] at p106
        refine tr_istore_n dX10_alp_30 (by decide) (by decide) ?_
        refine tr_aload_n dX10_alp_31 rfl ?_
        refine q_iconst dX10_alp_32 (by decide) ?_
        intro v137 h138
        refine q_putI dX10_alp_33 fl10_71 (kR1 hS86.1 ta0) (Or.inl rfl) hS86 ta0 (by show (0 : Int) ≤ v137.toInt ∧ v137.toInt ≤ (900 : Int); omega) rfl (by decide +kernel) ?_
        intro I139 hS140 e141 f142
        have c143 : I139 a0 15 = v4 := (f142 _ _ (fun q => absurd q.2 (by decide))).trans c88
        have c144 : I139 a0 16 = v6 := (f142 _ _ (fun q => absurd q.2 (by decide))).trans c89
        have c145 : I139 a0 5 = v12 := (f142 _ _ (fun q => absurd q.2 (by decide))).trans c90
        have c146 : I139 a74 15 = v112 := (f142 _ _ (fun q => absurd q.2 (by decide))).trans c113
        have c147 : I139 a8 5 = v114 := (f142 _ _ (fun q => absurd q.2 (by decide))).trans c115
        have c148 : I139 a8 0 = v117 := (f142 _ _ (fun q => absurd q.2 (by decide))).trans c118
        have c149 : I139 a8 11 = v120 := (f142 _ _ (fun q => absurd q.2 (by decide))).trans c121
        have c150 : I139 a8 3 = v123 := (f142 _ _ (fun q => absurd q.2 (by decide))).trans c124
        have c151 : I139 a8 1 = v126 := (f142 _ _ (fun q => by have z := ta8; rw [q.1, ta0] at z; exact absurd z (by decide))).trans c127
        have c152 : I139 a8 9 = v129 := (f142 _ _ (fun q => absurd q.2 (by decide))).trans c130
        have c153 : I139 a8 13 = v132 := (f142 _ _ (fun q => absurd q.2 (by decide))).trans c133
        have c154 : I139 a8 7 = v135 := (f142 _ _ (fun q => absurd q.2 (by decide))).trans c136
        have hO155 : FrO 2 a8 T I0 I139 := hO93.put f142 ta0 (Or.inl (by decide))
        refine tr_aload_n dX10_alp_36 rfl ?_
        refine tr_aload_n dX10_alp_37 rfl ?_
        refine tr_getR dX10_alp_38 fl10_28 (kR1 hS140.1 ta0) ((hS140.rcell ta0 (by decide +kernel)).trans d75) ?_
        refine q_getI dX10_alp_41 fl10_87 (kR7 hS140.1 ta74) c146 ?_
        refine q_putI dX10_alp_44 fl10_90 (kR1 hS140.1 ta0) (Or.inl rfl) hS140 ta0 (iokF rfl) rfl (by decide +kernel) ?_
        intro I156 hS157 e158 f159
        have c160 : I156 a0 16 = v6 := (f159 _ _ (fun q => absurd q.2 (by decide))).trans c144
        have c161 : I156 a0 5 = v12 := (f159 _ _ (fun q => absurd q.2 (by decide))).trans c145
        have c162 : I156 a74 15 = v112 := (f159 _ _ (fun q => by have z := ta74; rw [q.1, ta0] at z; exact absurd z (by decide))).trans c146
        have c163 : I156 a8 5 = v114 := (f159 _ _ (fun q => absurd q.2 (by decide))).trans c147
        have c164 : I156 a8 0 = v117 := (f159 _ _ (fun q => absurd q.2 (by decide))).trans c148
        have c165 : I156 a8 11 = v120 := (f159 _ _ (fun q => absurd q.2 (by decide))).trans c149
        have c166 : I156 a8 3 = v123 := (f159 _ _ (fun q => absurd q.2 (by decide))).trans c150
        have c167 : I156 a8 1 = v126 := (f159 _ _ (fun q => absurd q.2 (by decide))).trans c151
        have c168 : I156 a8 9 = v129 := (f159 _ _ (fun q => absurd q.2 (by decide))).trans c152
        have c169 : I156 a8 13 = v132 := (f159 _ _ (fun q => absurd q.2 (by decide))).trans c153
        have c170 : I156 a8 7 = v135 := (f159 _ _ (fun q => absurd q.2 (by decide))).trans c154
        have c171 : I156 a0 1 = v137 := (f159 _ _ (fun q => absurd q.2 (by decide))).trans e141
        have hO172 : FrO 2 a8 T I0 I156 := hO155.put f159 ta0 (Or.inl (by decide))
        refine tr_aload_n dX10_alp_47 rfl ?_
        refine tr_aload_n dX10_alp_48 rfl ?_
        refine tr_getR dX10_alp_49 fl10_28 (kR1 hS157.1 ta0) ((hS157.rcell ta0 (by decide +kernel)).trans d75) ?_
        obtain ⟨v173, c174⟩ : ∃ v, I156 a74 16 = v := ⟨_, rfl⟩
        refine q_getI dX10_alp_52 fl10_91 (kR7 hS157.1 ta74) c174 ?_
        refine q_putI dX10_alp_55 fl10_94 (kR1 hS157.1 ta0) (Or.inl rfl) hS157 ta0 (iokF rfl) rfl (by decide +kernel) ?_
        intro I175 hS176 e177 f178
        have c179 : I175 a0 5 = v12 := (f178 _ _ (fun q => absurd q.2 (by decide))).trans c161
        have c180 : I175 a74 15 = v112 := (f178 _ _ (fun q => absurd q.2 (by decide))).trans c162
        have c181 : I175 a8 5 = v114 := (f178 _ _ (fun q => absurd q.2 (by decide))).trans c163
        have c182 : I175 a8 0 = v117 := (f178 _ _ (fun q => absurd q.2 (by decide))).trans c164
        have c183 : I175 a8 11 = v120 := (f178 _ _ (fun q => absurd q.2 (by decide))).trans c165
        have c184 : I175 a8 3 = v123 := (f178 _ _ (fun q => absurd q.2 (by decide))).trans c166
        have c185 : I175 a8 1 = v126 := (f178 _ _ (fun q => absurd q.2 (by decide))).trans c167
        have c186 : I175 a8 9 = v129 := (f178 _ _ (fun q => absurd q.2 (by decide))).trans c168
        have c187 : I175 a8 13 = v132 := (f178 _ _ (fun q => absurd q.2 (by decide))).trans c169
        have c188 : I175 a8 7 = v135 := (f178 _ _ (fun q => absurd q.2 (by decide))).trans c170
        have c189 : I175 a0 1 = v137 := (f178 _ _ (fun q => absurd q.2 (by decide))).trans c171
        have c190 : I175 a0 15 = v112 := (f178 _ _ (fun q => absurd q.2 (by decide))).trans e158
        have c191 : I175 a74 16 = v173 := (f178 _ _ (fun q => by have z := ta74; rw [q.1, ta0] at z; exact absurd z (by decide))).trans c174
        have hO192 : FrO 2 a8 T I0 I175 := hO172.put f178 ta0 (Or.inl (by decide))
        refine tr_iload_n dX10_alp_58 rfl ?_
        refine q_if_ne 68 dX10_alp_59 (by decide) (fun h193 => ?_) (fun h193 => ?_)
        · skip
          refine tr_aload_n dX10_alp_68 rfl ?_
          refine tr_getR dX10_alp_69 fl10_16 (kR1 hS176.1 ta0) d92 ?_
          refine tr_astore_n dX10_alp_72 (by decide) (by decide) ?_
          refine tr_aload_n dX10_alp_73 rfl ?_
          refine tr_aload_n dX10_alp_74 rfl ?_
          refine tr_getR dX10_alp_75 fl10_20 (kR1 hS176.1 ta0) d91 ?_
          refine q_putR dX10_alp_78 fl10_16 (kR1 hS176.1 ta0) (Or.inl rfl) hS176 ta0 (okR_in rfl rfl ta8) rfl (by decide +kernel) ?_
          intro R194 hS195 e196 f197
          have d198 : R194 a0 3 = some a8 := (f197 _ _ (fun q => absurd q.2 (by decide))).trans d91
          refine tr_aload_n dX10_alp_81 rfl ?_
          refine tr_aload_n dX10_alp_82 rfl ?_
          refine q_putR dX10_alp_83 fl10_20 (kR1 hS195.1 ta0) (Or.inl rfl) hS195 ta0 (okR_in rfl rfl ta10) rfl (by decide +kernel) ?_
          intro R199 hS200 e201 f202
          have d203 : R199 a0 2 = some a8 := (f202 _ _ (fun q => absurd q.2 (by decide))).trans e196
          refine tr_aload_n dX10_alp_86 rfl ?_
          refine q_iconst dX10_alp_87 (by decide) ?_
          intro v204 h205
          refine q_putZ dX10_alp_88 fl10_95 (kR1 hS200.1 ta0) (Or.inl rfl) hS200 ta0 (by omega) (by show (0 : Int) ≤ v204.toInt ∧ v204.toInt ≤ (1 : Int); omega) rfl (by decide +kernel) ?_
          intro I206 hS207 e208 f209
          have c210 : I206 a74 15 = v112 := (f209 _ _ (fun q => absurd q.2 (by decide))).trans c180
          have c211 : I206 a8 5 = v114 := (f209 _ _ (fun q => by have z := ta8; rw [q.1, ta0] at z; exact absurd z (by decide))).trans c181
          have c212 : I206 a8 0 = v117 := (f209 _ _ (fun q => absurd q.2 (by decide))).trans c182
          have c213 : I206 a8 11 = v120 := (f209 _ _ (fun q => absurd q.2 (by decide))).trans c183
          have c214 : I206 a8 3 = v123 := (f209 _ _ (fun q => absurd q.2 (by decide))).trans c184
          have c215 : I206 a8 1 = v126 := (f209 _ _ (fun q => absurd q.2 (by decide))).trans c185
          have c216 : I206 a8 9 = v129 := (f209 _ _ (fun q => absurd q.2 (by decide))).trans c186
          have c217 : I206 a8 13 = v132 := (f209 _ _ (fun q => absurd q.2 (by decide))).trans c187
          have c218 : I206 a8 7 = v135 := (f209 _ _ (fun q => absurd q.2 (by decide))).trans c188
          have c219 : I206 a0 1 = v137 := (f209 _ _ (fun q => absurd q.2 (by decide))).trans c189
          have c220 : I206 a0 15 = v112 := (f209 _ _ (fun q => absurd q.2 (by decide))).trans c190
          have c221 : I206 a74 16 = v173 := (f209 _ _ (fun q => absurd q.2 (by decide))).trans c191
          have c222 : I206 a0 16 = v173 := (f209 _ _ (fun q => absurd q.2 (by decide))).trans e177
          have hO223 : FrO 2 a8 T I0 I206 := hO192.put f209 ta0 (Or.inl (by decide))
          refine tr_aload_n dX10_alp_91 rfl ?_
          obtain ⟨a224, d225, ta224⟩ := rf1_6 hW0 ta0
          refine tr_getR dX10_alp_92 fl10_35 (kR1 hS207.1 ta0) ((hS207.rcell ta0 (by decide +kernel)).trans d225) ?_
          refine q_callVv hE (M' := mX3_clear) (as := []) dX10_alp_95 lk10_99 inX3_clear seX3_clear myX3_clear (by decide) ⟨by decide, by decide⟩ rfl (kR8 hS207.1 ta224) (Nat.le_of_ble_eq_true rfl) rfl rfl (by decide) (by decide) (fk_X3_clear hS207.1  ta224) ?_
          rintro cn' K' N' I226 R227 L228 ⟨rfl, rfl, rfl, rfl, rfl, g229, p232, p233, p234, -⟩
          have hS235 := hS207.tr g229 (by decide +kernel) (by decide +kernel)
          have c236 : I226 a74 15 = v112 := (g229.cell ta74 (by decide +kernel)).trans c210
          have c237 : I226 a8 5 = v114 := (g229.cell ta8 (by decide +kernel)).trans c211
          have c238 : I226 a8 0 = v117 := (g229.cell ta8 (by decide +kernel)).trans c212
          have c239 : I226 a8 11 = v120 := (g229.cell ta8 (by decide +kernel)).trans c213
          have c240 : I226 a8 3 = v123 := (g229.cell ta8 (by decide +kernel)).trans c214
          have c241 : I226 a8 1 = v126 := (g229.cell ta8 (by decide +kernel)).trans c215
          have c242 : I226 a8 9 = v129 := (g229.cell ta8 (by decide +kernel)).trans c216
          have c243 : I226 a8 13 = v132 := (g229.cell ta8 (by decide +kernel)).trans c217
          have c244 : I226 a8 7 = v135 := (g229.cell ta8 (by decide +kernel)).trans c218
          have c245 : I226 a0 1 = v137 := (g229.cell ta0 (by decide +kernel)).trans c219
          have c246 : I226 a0 15 = v112 := (g229.cell ta0 (by decide +kernel)).trans c220
          have c247 : I226 a74 16 = v173 := (g229.cell ta74 (by decide +kernel)).trans c221
          have c248 : I226 a0 16 = v173 := (g229.cell ta0 (by decide +kernel)).trans c222
          have c249 : I226 a0 5 = v204 := (g229.cell ta0 (by decide +kernel)).trans e208
          have hO250 : FrO 2 a8 T I0 I226 := hO223.st g229 (by decide +kernel)
          obtain ⟨v251, c252⟩ : ∃ v, I226 a224 0 = v := ⟨_, rfl⟩
          rw [c252] at p232
          obtain ⟨v253, c254⟩ : ∃ v, I226 a224 1 = v := ⟨_, rfl⟩
          have b255 := iv8_1 hS235.1 ta224 c254
          rw [c254] at p233
          obtain ⟨v256, c257⟩ : ∃ v, I226 a224 2 = v := ⟨_, rfl⟩
          have b258 := iv8_2 hS235.1 ta224 c257
          rw [c257] at p234
          refine tr_aload_n dX10_alp_98 rfl ?_
          obtain ⟨a259, d260, ta259⟩ := rf1_7 hW0 ta0
          refine tr_getR dX10_alp_99 fl10_42 (kR1 hS235.1 ta0) ((hS235.rcell ta0 (by decide +kernel)).trans d260) ?_
          refine q_callVv hE (M' := mX6_clear) (as := []) dX10_alp_102 lk10_102 inX6_clear seX6_clear myX6_clear (by decide) ⟨by decide, by decide⟩ rfl (kR11 hS235.1 ta259) (Nat.le_of_ble_eq_true rfl) rfl rfl (by decide) (by decide) (fk_X6_clear hS235.1  ta259) ?_
          rintro cn' K' N' I261 R262 L263 ⟨rfl, rfl, rfl, rfl, rfl, g264, p267, p268, -⟩
          have hS269 := hS235.tr g264 (by decide +kernel) (by decide +kernel)
          have c270 : I261 a74 15 = v112 := (g264.cell ta74 (by decide +kernel)).trans c236
          have c271 : I261 a8 5 = v114 := (g264.cell ta8 (by decide +kernel)).trans c237
          have c272 : I261 a8 0 = v117 := (g264.cell ta8 (by decide +kernel)).trans c238
          have c273 : I261 a8 11 = v120 := (g264.cell ta8 (by decide +kernel)).trans c239
          have c274 : I261 a8 3 = v123 := (g264.cell ta8 (by decide +kernel)).trans c240
          have c275 : I261 a8 1 = v126 := (g264.cell ta8 (by decide +kernel)).trans c241
          have c276 : I261 a8 9 = v129 := (g264.cell ta8 (by decide +kernel)).trans c242
          have c277 : I261 a8 13 = v132 := (g264.cell ta8 (by decide +kernel)).trans c243
          have c278 : I261 a8 7 = v135 := (g264.cell ta8 (by decide +kernel)).trans c244
          have c279 : I261 a0 1 = v137 := (g264.cell ta0 (by decide +kernel)).trans c245
          have c280 : I261 a0 15 = v112 := (g264.cell ta0 (by decide +kernel)).trans c246
          have c281 : I261 a74 16 = v173 := (g264.cell ta74 (by decide +kernel)).trans c247
          have c282 : I261 a0 16 = v173 := (g264.cell ta0 (by decide +kernel)).trans c248
          have c283 : I261 a0 5 = v204 := (g264.cell ta0 (by decide +kernel)).trans c249
          have c284 : I261 a224 0 = v251 := (g264.cell ta224 (by decide +kernel)).trans c252
          have c285 : I261 a224 1 = v253 := (g264.cell ta224 (by decide +kernel)).trans c254
          have c286 : I261 a224 2 = v256 := (g264.cell ta224 (by decide +kernel)).trans c257
          have hO287 : FrO 2 a8 T I0 I261 := hO250.st g264 (by decide +kernel)
          obtain ⟨v288, c289⟩ : ∃ v, I261 a259 0 = v := ⟨_, rfl⟩
          have b290 := iv11_0 hS269.1 ta259 c289
          rw [c289] at p267
          obtain ⟨v291, c292⟩ : ∃ v, I261 a259 2 = v := ⟨_, rfl⟩
          have b293 := iv11_2 hS269.1 ta259 c292
          rw [c292] at p268
          refine tr_aload_n dX10_alp_105 rfl ?_
          refine q_callVv hE (M' := mX10_cloudsMoved) (as := []) dX10_alp_106 lk10_103 inX10_cloudsMoved seX10_cloudsMoved myX10_cloudsMoved (by decide) ⟨by decide, by decide⟩ rfl (kR1 hS269.1 ta0) (Nat.le_of_ble_eq_true rfl) rfl rfl (by decide) (by decide) (k_X10_cloudsMoved hS269.1 ta0) ?_
          rintro cn' K' N' I294 R295 L296 ⟨rfl, rfl, rfl, rfl, rfl, g297, -⟩
          have hS299 := hS269.tr g297 (by decide +kernel) (by decide +kernel)
          have c300 : I294 a74 15 = v112 := (g297.cell ta74 (by decide +kernel)).trans c270
          have c301 : I294 a8 5 = v114 := (g297.cell ta8 (by decide +kernel)).trans c271
          have c302 : I294 a8 0 = v117 := (g297.cell ta8 (by decide +kernel)).trans c272
          have c303 : I294 a8 11 = v120 := (g297.cell ta8 (by decide +kernel)).trans c273
          have c304 : I294 a8 3 = v123 := (g297.cell ta8 (by decide +kernel)).trans c274
          have c305 : I294 a8 1 = v126 := (g297.cell ta8 (by decide +kernel)).trans c275
          have c306 : I294 a8 9 = v129 := (g297.cell ta8 (by decide +kernel)).trans c276
          have c307 : I294 a8 13 = v132 := (g297.cell ta8 (by decide +kernel)).trans c277
          have c308 : I294 a8 7 = v135 := (g297.cell ta8 (by decide +kernel)).trans c278
          have c309 : I294 a0 1 = v137 := (g297.cell ta0 (by decide +kernel)).trans c279
          have c310 : I294 a0 15 = v112 := (g297.cell ta0 (by decide +kernel)).trans c280
          have c311 : I294 a74 16 = v173 := (g297.cell ta74 (by decide +kernel)).trans c281
          have c312 : I294 a0 16 = v173 := (g297.cell ta0 (by decide +kernel)).trans c282
          have c313 : I294 a0 5 = v204 := (g297.cell ta0 (by decide +kernel)).trans c283
          have c314 : I294 a224 0 = v251 := (g297.cell ta224 (by decide +kernel)).trans c284
          have c315 : I294 a224 1 = v253 := (g297.cell ta224 (by decide +kernel)).trans c285
          have c316 : I294 a224 2 = v256 := (g297.cell ta224 (by decide +kernel)).trans c286
          have c317 : I294 a259 0 = v288 := (g297.cell ta259 (by decide +kernel)).trans c289
          have c318 : I294 a259 2 = v291 := (g297.cell ta259 (by decide +kernel)).trans c292
          have hO319 : FrO 2 a8 T I0 I294 := hO287.st g297 (by decide +kernel)
          refine tr_aload_n dX10_alp_109 rfl ?_
          refine tr_aload_n dX10_alp_110 rfl ?_
          refine tr_getR dX10_alp_111 fl10_16 (kR1 hS299.1 ta0) d203 ?_
          refine q_getI dX10_alp_114 fl10_106 (kR2 hS299.1 ta8) c301 ?_
          refine q_callVi hE (M' := mX10_answered) (as := [_]) dX10_alp_117 lk10_109 inX10_answered seX10_answered myX10_answered (by decide) ⟨by decide, by decide⟩ rfl (kR1 hS299.1 ta0) (Nat.le_of_ble_eq_true rfl) rfl rfl (by decide) (by decide) (fk_X10_answered hS299.1  ta0) ?_
          rintro v325 cn' K' N' I320 R321 L322 ⟨rfl, rfl, rfl, rfl, rfl, g323, p326, p327, -⟩
          have hS328 := hS299.tr g323 (by decide +kernel) (by decide +kernel)
          have c329 : I320 a74 15 = v112 := (g323.cell ta74 (by decide +kernel)).trans c300
          have c330 : I320 a8 5 = v114 := (g323.cell ta8 (by decide +kernel)).trans c301
          have c331 : I320 a8 0 = v117 := (g323.cell ta8 (by decide +kernel)).trans c302
          have c332 : I320 a8 11 = v120 := (g323.cell ta8 (by decide +kernel)).trans c303
          have c333 : I320 a8 3 = v123 := (g323.cell ta8 (by decide +kernel)).trans c304
          have c334 : I320 a8 1 = v126 := (g323.cell ta8 (by decide +kernel)).trans c305
          have c335 : I320 a8 9 = v129 := (g323.cell ta8 (by decide +kernel)).trans c306
          have c336 : I320 a8 13 = v132 := (g323.cell ta8 (by decide +kernel)).trans c307
          have c337 : I320 a8 7 = v135 := (g323.cell ta8 (by decide +kernel)).trans c308
          have c338 : I320 a0 1 = v137 := (g323.cell ta0 (by decide +kernel)).trans c309
          have c339 : I320 a0 15 = v112 := (g323.cell ta0 (by decide +kernel)).trans c310
          have c340 : I320 a74 16 = v173 := (g323.cell ta74 (by decide +kernel)).trans c311
          have c341 : I320 a0 16 = v173 := (g323.cell ta0 (by decide +kernel)).trans c312
          have c342 : I320 a0 5 = v204 := (g323.cell ta0 (by decide +kernel)).trans c313
          have c343 : I320 a224 0 = v251 := (g323.cell ta224 (by decide +kernel)).trans c314
          have c344 : I320 a224 1 = v253 := (g323.cell ta224 (by decide +kernel)).trans c315
          have c345 : I320 a224 2 = v256 := (g323.cell ta224 (by decide +kernel)).trans c316
          have c346 : I320 a259 0 = v288 := (g323.cell ta259 (by decide +kernel)).trans c317
          have c347 : I320 a259 2 = v291 := (g323.cell ta259 (by decide +kernel)).trans c318
          have hO348 : FrO 2 a8 T I0 I320 := hO319.st g323 (by decide +kernel)
          obtain ⟨v349, c350⟩ : ∃ v, I320 a0 17 = v := ⟨_, rfl⟩
          rw [c350] at p327
          exact tr_iret hZ dX10_alp_120 rfl (by decide) (by decide) ⟨v325, rfl, rfl, rfl, rfl, hS328, hL94, (fun dr hd => by obtain rfl := Option.some.inj (d9.symm.trans hd); exact ((((((((((FrK.rf (R := R0) (al := a8) (W := fun _ => True) (T := T)).tr rp83).put f142 ta0 (by decide)).put f159 ta0 (by decide)).put f178 ta0 (by decide)).put f209 ta0 (by decide)).st g229 (by decide +kernel)).st g264 (by decide +kernel)).st g297 (by decide +kernel)).st g323 (by decide +kernel))), (fun dr hd => (Option.some.inj (d9.symm.trans hd)) ▸ hO348), (Or.inr (Or.inl ⟨(by first | done | with_reducible assumption | omega), (by (try rw [c2]); first | done | with_reducible assumption | omega), (by first | done | with_reducible assumption | omega), (by first | done | with_reducible assumption | omega), (by (try rw [c338]); first | done | with_reducible assumption | omega), (by (try rw [c339]); first | done | with_reducible assumption | omega), (by (try rw [c350]); first | done | with_reducible assumption | omega), (by (try rw [c342]); first | done | with_reducible assumption | omega), (fun q0 z0 => by obtain rfl := Option.some.inj ((((hS328.rcell ta0 (by decide +kernel)).trans d225)).symm.trans z0); (try rw [c343]); first | done | with_reducible assumption | omega), (fun q0 z0 => by obtain rfl := Option.some.inj ((((hS328.rcell ta0 (by decide +kernel)).trans d225)).symm.trans z0); (try rw [c344]); first | done | with_reducible assumption | omega), (fun q0 z0 => by obtain rfl := Option.some.inj ((((hS328.rcell ta0 (by decide +kernel)).trans d225)).symm.trans z0); (try rw [c345]); first | done | with_reducible assumption | omega), (fun q0 z0 => by obtain rfl := Option.some.inj ((((hS328.rcell ta0 (by decide +kernel)).trans d260)).symm.trans z0); (try rw [c346]); first | done | with_reducible assumption | omega), (fun q0 z0 => by obtain rfl := Option.some.inj ((((hS328.rcell ta0 (by decide +kernel)).trans d260)).symm.trans z0); (try rw [c347]); first | done | with_reducible assumption | omega), (fun q0 z0 => by obtain rfl := Option.some.inj ((d203).symm.trans z0); (try rw [c331]); first | done | with_reducible assumption | omega), (fun q0 z0 => by obtain rfl := Option.some.inj ((d203).symm.trans z0); (try rw [c332]); first | done | with_reducible assumption | omega), (fun q0 z0 => by obtain rfl := Option.some.inj ((d203).symm.trans z0); (try rw [c333]); first | done | with_reducible assumption | omega), (fun q0 z0 => by obtain rfl := Option.some.inj ((d203).symm.trans z0); (try rw [c334]); first | done | with_reducible assumption | omega), (fun q0 z0 => by obtain rfl := Option.some.inj ((d203).symm.trans z0); (try rw [c330]); first | done | with_reducible assumption | omega), (fun q0 z0 => by obtain rfl := Option.some.inj ((d203).symm.trans z0); (try rw [c335]); first | done | with_reducible assumption | omega), (fun q0 z0 => by obtain rfl := Option.some.inj ((d203).symm.trans z0); (try rw [c336]); first | done | with_reducible assumption | omega), ⟨(d203).trans (d9).symm, (e201).trans (d11).symm⟩, (fun dr hd hD => by obtain rfl := Option.some.inj (d9.symm.trans hd); exact AlC.kp (rp107 (hD)) hW0 ta8 (((g323.cell ta8 (wm_no (by decide +kernel))).trans ((g297.cell ta8 (wm_no (by decide +kernel))).trans ((g264.cell ta8 (wm_no (by decide +kernel))).trans ((g229.cell ta8 (wm_no (by decide +kernel))).trans ((f209 _ _ (fun q => by have z := ta8; rw [q.1, ta0] at z; exact absurd z (by decide))).trans ((f178 _ _ (fun q => by have z := ta8; rw [q.1, ta0] at z; exact absurd z (by decide))).trans ((f159 _ _ (fun q => by have z := ta8; rw [q.1, ta0] at z; exact absurd z (by decide))).trans (f142 _ _ (fun q => by have z := ta8; rw [q.1, ta0] at z; exact absurd z (by decide))))))))))) (show RoF rdc T _ _ from (((((((((RoF.rf (ex := rdc) (T := T)).put f142 ta0 (by decide)).put f159 ta0 (by decide)).put f178 ta0 (by decide)).put f209 ta0 (by decide)).tr (RoF.st g229 (by decide +kernel))).tr (RoF.st g264 (by decide +kernel))).tr (RoF.st g297 (by decide +kernel))).tr (RoF.st g323 (by decide +kernel))))), trivial⟩)), trivial⟩
        · skip
          exfalso; omega
      · skip
        obtain ⟨v351, c352⟩ : ∃ v, I76 a74 15 = v := ⟨_, rfl⟩
        rw [c352] at p110
        obtain ⟨v353, c354⟩ : ∃ v, I76 a74 16 = v := ⟨_, rfl⟩
        rw [c354] at p111
        refine tr_istore_n dX10_alp_30 (by decide) (by decide) ?_
        refine tr_aload_n dX10_alp_31 rfl ?_
        refine q_iconst dX10_alp_32 (by decide) ?_
        intro v355 h356
        refine q_putI dX10_alp_33 fl10_71 (kR1 hS86.1 ta0) (Or.inl rfl) hS86 ta0 (by show (0 : Int) ≤ v355.toInt ∧ v355.toInt ≤ (900 : Int); omega) rfl (by decide +kernel) ?_
        intro I357 hS358 e359 f360
        have c361 : I357 a0 15 = v4 := (f360 _ _ (fun q => absurd q.2 (by decide))).trans c88
        have c362 : I357 a0 16 = v6 := (f360 _ _ (fun q => absurd q.2 (by decide))).trans c89
        have c363 : I357 a0 5 = v12 := (f360 _ _ (fun q => absurd q.2 (by decide))).trans c90
        have c364 : I357 a74 15 = v351 := (f360 _ _ (fun q => absurd q.2 (by decide))).trans c352
        have c365 : I357 a74 16 = v353 := (f360 _ _ (fun q => absurd q.2 (by decide))).trans c354
        have hO366 : FrO 2 a8 T I0 I357 := hO93.put f360 ta0 (Or.inl (by decide))
        refine tr_aload_n dX10_alp_36 rfl ?_
        refine tr_aload_n dX10_alp_37 rfl ?_
        refine tr_getR dX10_alp_38 fl10_28 (kR1 hS358.1 ta0) ((hS358.rcell ta0 (by decide +kernel)).trans d75) ?_
        refine q_getI dX10_alp_41 fl10_87 (kR7 hS358.1 ta74) c364 ?_
        refine q_putI dX10_alp_44 fl10_90 (kR1 hS358.1 ta0) (Or.inl rfl) hS358 ta0 (iokF rfl) rfl (by decide +kernel) ?_
        intro I367 hS368 e369 f370
        have c371 : I367 a0 16 = v6 := (f370 _ _ (fun q => absurd q.2 (by decide))).trans c362
        have c372 : I367 a0 5 = v12 := (f370 _ _ (fun q => absurd q.2 (by decide))).trans c363
        have c373 : I367 a74 15 = v351 := (f370 _ _ (fun q => by have z := ta74; rw [q.1, ta0] at z; exact absurd z (by decide))).trans c364
        have c374 : I367 a74 16 = v353 := (f370 _ _ (fun q => absurd q.2 (by decide))).trans c365
        have c375 : I367 a0 1 = v355 := (f370 _ _ (fun q => absurd q.2 (by decide))).trans e359
        have hO376 : FrO 2 a8 T I0 I367 := hO366.put f370 ta0 (Or.inl (by decide))
        refine tr_aload_n dX10_alp_47 rfl ?_
        refine tr_aload_n dX10_alp_48 rfl ?_
        refine tr_getR dX10_alp_49 fl10_28 (kR1 hS368.1 ta0) ((hS368.rcell ta0 (by decide +kernel)).trans d75) ?_
        refine q_getI dX10_alp_52 fl10_91 (kR7 hS368.1 ta74) c374 ?_
        refine q_putI dX10_alp_55 fl10_94 (kR1 hS368.1 ta0) (Or.inl rfl) hS368 ta0 (iokF rfl) rfl (by decide +kernel) ?_
        intro I377 hS378 e379 f380
        have c381 : I377 a0 5 = v12 := (f380 _ _ (fun q => absurd q.2 (by decide))).trans c372
        have c382 : I377 a74 15 = v351 := (f380 _ _ (fun q => absurd q.2 (by decide))).trans c373
        have c383 : I377 a74 16 = v353 := (f380 _ _ (fun q => by have z := ta74; rw [q.1, ta0] at z; exact absurd z (by decide))).trans c374
        have c384 : I377 a0 1 = v355 := (f380 _ _ (fun q => absurd q.2 (by decide))).trans c375
        have c385 : I377 a0 15 = v351 := (f380 _ _ (fun q => absurd q.2 (by decide))).trans e369
        have hO386 : FrO 2 a8 T I0 I377 := hO376.put f380 ta0 (Or.inl (by decide))
        refine tr_iload_n dX10_alp_58 rfl ?_
        refine q_if_ne 68 dX10_alp_59 (by decide) (fun h387 => ?_) (fun h387 => ?_)
        · skip
          exfalso; omega
        · skip
          refine tr_aload_n dX10_alp_62 rfl ?_
          refine q_iconst dX10_alp_63 (by decide) ?_
          intro v388 h389
          refine q_callVi hE (M' := mX10_refused) (as := [_]) dX10_alp_64 lk10_79 inX10_refused seX10_refused myX10_refused (by decide) ⟨by decide, by decide⟩ rfl (kR1 hS378.1 ta0) (Nat.le_of_ble_eq_true rfl) rfl rfl (by decide) (by decide) (fk_X10_refused hS378.1  ta0) ?_
          rintro v395 cn' K' N' I390 R391 L392 ⟨rfl, rfl, rfl, rfl, rfl, g393, p396, p397, -⟩
          have hS398 := hS378.tr g393 (by decide +kernel) (by decide +kernel)
          have c399 : I390 a0 5 = v12 := (g393.cell ta0 (by decide +kernel)).trans c381
          have c400 : I390 a74 15 = v351 := (g393.cell ta74 (by decide +kernel)).trans c382
          have c401 : I390 a74 16 = v353 := (g393.cell ta74 (by decide +kernel)).trans c383
          have c402 : I390 a0 1 = v355 := (g393.cell ta0 (by decide +kernel)).trans c384
          have c403 : I390 a0 15 = v351 := (g393.cell ta0 (by decide +kernel)).trans c385
          have c404 : I390 a0 16 = v353 := (g393.cell ta0 (by decide +kernel)).trans e379
          have hO405 : FrO 2 a8 T I0 I390 := hO386.st g393 (by decide +kernel)
          obtain ⟨v406, c407⟩ : ∃ v, I390 a0 17 = v := ⟨_, rfl⟩
          rw [c407] at p397
          obtain ⟨a408, d409, ta408⟩ := rf1_6 hW0 ta0
          obtain ⟨v410, c411⟩ : ∃ v, I390 a408 0 = v := ⟨_, rfl⟩
          obtain ⟨v412, c413⟩ : ∃ v, I390 a408 1 = v := ⟨_, rfl⟩
          have b414 := iv8_1 hS398.1 ta408 c413
          obtain ⟨v415, c416⟩ : ∃ v, I390 a408 2 = v := ⟨_, rfl⟩
          have b417 := iv8_2 hS398.1 ta408 c416
          obtain ⟨a418, d419, ta418⟩ := rf1_7 hW0 ta0
          obtain ⟨v420, c421⟩ : ∃ v, I390 a418 0 = v := ⟨_, rfl⟩
          have b422 := iv11_0 hS398.1 ta418 c421
          obtain ⟨v423, c424⟩ : ∃ v, I390 a418 2 = v := ⟨_, rfl⟩
          have b425 := iv11_2 hS398.1 ta418 c424
          obtain ⟨v426, c427⟩ : ∃ v, I390 a10 0 = v := ⟨_, rfl⟩
          have b428 := iv2_0 hS398.1 ta10 c427
          obtain ⟨v429, c430⟩ : ∃ v, I390 a10 11 = v := ⟨_, rfl⟩
          have b431 := iv2_11 hS398.1 ta10 c430
          obtain ⟨v432, c433⟩ : ∃ v, I390 a10 3 = v := ⟨_, rfl⟩
          have b434 := iv2_3 hS398.1 ta10 c433
          obtain ⟨v435, c436⟩ : ∃ v, I390 a10 1 = v := ⟨_, rfl⟩
          have b437 := iv2_1 hS398.1 ta10 c436
          obtain ⟨v438, c439⟩ : ∃ v, I390 a10 5 = v := ⟨_, rfl⟩
          have b440 := iv2_5 hS398.1 ta10 c439
          obtain ⟨v441, c442⟩ : ∃ v, I390 a10 9 = v := ⟨_, rfl⟩
          have b443 := iv2_9 hS398.1 ta10 c442
          obtain ⟨v444, c445⟩ : ∃ v, I390 a10 13 = v := ⟨_, rfl⟩
          have b446 := iv2_13 hS398.1 ta10 c445
          exact tr_iret hZ dX10_alp_67 rfl (by decide) (by decide) ⟨v395, rfl, rfl, rfl, rfl, hS398, hL94, (fun dr hd => by obtain rfl := Option.some.inj (d9.symm.trans hd); exact ((((((FrK.rf (R := R0) (al := a8) (W := fun _ => True) (T := T)).tr rp83).put f360 ta0 (by decide)).put f370 ta0 (by decide)).put f380 ta0 (by decide)).st g393 (by decide +kernel))), (fun dr hd => (Option.some.inj (d9.symm.trans hd)) ▸ hO405), (Or.inr (Or.inr (⟨(by first | done | with_reducible assumption | omega), (by (try rw [c2]); first | done | with_reducible assumption | omega), (by first | done | with_reducible assumption | omega), (by first | done | with_reducible assumption | omega), (by (try rw [c402]); first | done | with_reducible assumption | omega), (by (try rw [c403]); first | done | with_reducible assumption | omega), (by (try rw [c404]); first | done | with_reducible assumption | omega), (by (try rw [c407]); first | done | with_reducible assumption | omega), ⟨(d92).trans (d11).symm, (d91).trans (d9).symm⟩, ⟨fun a j h => by rcases h with h | h | h; exact ((g393.cell h (wm_no (by decide +kernel))).trans ((f380 _ _ (fun q => by have z := h; rw [q.1, ta0] at z; exact absurd z (by decide))).trans ((f370 _ _ (fun q => by have z := h; rw [q.1, ta0] at z; exact absurd z (by decide))).trans ((f360 _ _ (fun q => by have z := h; rw [q.1, ta0] at z; exact absurd z (by decide))).trans (g79.cell h (wm_no (by decide +kernel))))))); exact ((g393.cell h (wm_no (by decide +kernel))).trans ((f380 _ _ (fun q => by have z := h; rw [q.1, ta0] at z; exact absurd z (by decide))).trans ((f370 _ _ (fun q => by have z := h; rw [q.1, ta0] at z; exact absurd z (by decide))).trans ((f360 _ _ (fun q => by have z := h; rw [q.1, ta0] at z; exact absurd z (by decide))).trans (g79.cell h (wm_no (by decide +kernel))))))); exact ((g393.cell h (wm_no (by decide +kernel))).trans ((f380 _ _ (fun q => by have z := h; rw [q.1, ta0] at z; exact absurd z (by decide))).trans ((f370 _ _ (fun q => by have z := h; rw [q.1, ta0] at z; exact absurd z (by decide))).trans ((f360 _ _ (fun q => by have z := h; rw [q.1, ta0] at z; exact absurd z (by decide))).trans (g79.cell h (wm_no (by decide +kernel))))))), (c399).trans (c13).symm⟩, trivial⟩))), trivial⟩
    · skip
      refine tr_aload_n dX10_alp_12 rfl ?_
      refine q_iconst dX10_alp_13 (by decide) ?_
      intro v447 h448
      refine q_callVi hE (M' := mX10_refused) (as := [_]) dX10_alp_14 lk10_79 inX10_refused seX10_refused myX10_refused (by decide) ⟨by decide, by decide⟩ rfl (kR1 hS0.1 ta0) (Nat.le_of_ble_eq_true rfl) rfl rfl (by decide) (by decide) (fk_X10_refused hS0.1  ta0) ?_
      rintro v454 cn' K' N' I449 R450 L451 ⟨rfl, rfl, rfl, rfl, rfl, g452, p455, p456, -⟩
      have hS457 := hS0.tr g452 (by decide +kernel) (by decide +kernel)
      have c458 : I449 a0 1 = v1 := (g452.cell ta0 (by decide +kernel)).trans c2
      have c459 : I449 a0 15 = v4 := (g452.cell ta0 (by decide +kernel)).trans c5
      have c460 : I449 a0 16 = v6 := (g452.cell ta0 (by decide +kernel)).trans c7
      have c461 : I449 a0 5 = v12 := (g452.cell ta0 (by decide +kernel)).trans c13
      have hO462 : FrO 2 a8 T I0 I449 := hO0.st g452 (by decide +kernel)
      obtain ⟨v463, c464⟩ : ∃ v, I449 a0 17 = v := ⟨_, rfl⟩
      rw [c464] at p456
      obtain ⟨a465, d466, ta465⟩ := rf1_6 hW0 ta0
      obtain ⟨v467, c468⟩ : ∃ v, I449 a465 0 = v := ⟨_, rfl⟩
      obtain ⟨v469, c470⟩ : ∃ v, I449 a465 1 = v := ⟨_, rfl⟩
      have b471 := iv8_1 hS457.1 ta465 c470
      obtain ⟨v472, c473⟩ : ∃ v, I449 a465 2 = v := ⟨_, rfl⟩
      have b474 := iv8_2 hS457.1 ta465 c473
      obtain ⟨a475, d476, ta475⟩ := rf1_7 hW0 ta0
      obtain ⟨v477, c478⟩ : ∃ v, I449 a475 0 = v := ⟨_, rfl⟩
      have b479 := iv11_0 hS457.1 ta475 c478
      obtain ⟨v480, c481⟩ : ∃ v, I449 a475 2 = v := ⟨_, rfl⟩
      have b482 := iv11_2 hS457.1 ta475 c481
      obtain ⟨v483, c484⟩ : ∃ v, I449 a10 0 = v := ⟨_, rfl⟩
      have b485 := iv2_0 hS457.1 ta10 c484
      obtain ⟨v486, c487⟩ : ∃ v, I449 a10 11 = v := ⟨_, rfl⟩
      have b488 := iv2_11 hS457.1 ta10 c487
      obtain ⟨v489, c490⟩ : ∃ v, I449 a10 3 = v := ⟨_, rfl⟩
      have b491 := iv2_3 hS457.1 ta10 c490
      obtain ⟨v492, c493⟩ : ∃ v, I449 a10 1 = v := ⟨_, rfl⟩
      have b494 := iv2_1 hS457.1 ta10 c493
      obtain ⟨v495, c496⟩ : ∃ v, I449 a10 5 = v := ⟨_, rfl⟩
      have b497 := iv2_5 hS457.1 ta10 c496
      obtain ⟨v498, c499⟩ : ∃ v, I449 a10 9 = v := ⟨_, rfl⟩
      have b500 := iv2_9 hS457.1 ta10 c499
      obtain ⟨v501, c502⟩ : ∃ v, I449 a10 13 = v := ⟨_, rfl⟩
      have b503 := iv2_13 hS457.1 ta10 c502
      exact tr_iret hZ dX10_alp_17 rfl (by decide) (by decide) ⟨v454, rfl, rfl, rfl, rfl, hS457, hL0, (fun dr hd => by obtain rfl := Option.some.inj (d9.symm.trans hd); exact ((FrK.rf (R := R0) (al := a8) (W := fun _ => True) (T := T)).st g452 (by decide +kernel))), (fun dr hd => (Option.some.inj (d9.symm.trans hd)) ▸ hO462), (Or.inl ⟨(by (try rw [c2]); first | done | with_reducible assumption | omega), (by first | done | with_reducible assumption | omega), (by (try rw [c458]); (try rw [c2]); first | done | with_reducible assumption | omega), (by (try rw [c459]); (try rw [c5]); first | done | with_reducible assumption | omega), (by (try rw [c460]); (try rw [c7]); first | done | with_reducible assumption | omega), (by (try rw [c464]); first | done | with_reducible assumption | omega), ⟨(d11).trans (d11).symm, (d9).trans (d9).symm⟩, ⟨fun a j h => by rcases h with h | h | h; exact (g452.cell h (wm_no (by decide +kernel))); exact (g452.cell h (wm_no (by decide +kernel))); exact (g452.cell h (wm_no (by decide +kernel))), (c461).trans (c13).symm⟩, trivial⟩), trivial⟩
