def wik_X10_alp : List Nat := [65, 69, 73, 75, 79, 80, 81, 128, 129, 131, 133, 135, 137, 139, 141, 192, 193, 194, 195, 256, 257, 258, 259, 260, 261, 320, 321, 322, 323, 384, 449, 450, 451, 452, 454, 455, 456, 457, 459, 460, 463, 464, 512, 513, 514, 704, 706, 1215, 1343, 1599]
def wrk_X10_alp : List Nat := [66, 67, 458]
def wlk_X10_alp : List Nat := [453, 1663, 1727]
set_option maxHeartbeats 4000000 in
theorem fk_X10_alp {l : Launch} {T : Nat → Nat} {cn : Nat} {K N : Nat → Nat} {I0 : cz_I} {R0 : cz_R} {L0 : cz_L} {d : Int} (hW0 : Wf T cn K N I0 R0 d) (gT : Nat → Int32) {a0 : Nat} (ta0 : T a0 = 1) {x1 : Int32} (hY : ∀ t, R0 a0 0 = some t → ∀ k : Nat, k < 900 → I0 t k = gT k) (hU : ∀ r, R0 a0 4 = some r → R0 r 0 = R0 a0 0) : ConE l mX10_alp [.ref a0, .int x1] cn K N I0 R0 L0 (ca_i (fun v cn' K' N' I' R' L' => cn = cn' ∧ K = K' ∧ N = N' ∧ St T cn K N d wik_X10_alp wrk_X10_alp I0 R0 I' R' ∧ LgS T wlk_X10_alp L0 L' ∧ ((((x1.toInt < 0 ∨ x1.toInt > (I0 a0 1).toInt)) ∧ (v.toInt = -1) ∧ ((I' a0 1).toInt = (I0 a0 1).toInt) ∧ ((I' a0 15).toInt = (I0 a0 15).toInt) ∧ ((I' a0 16).toInt = (I0 a0 16).toInt) ∧ ((I' a0 17).toInt = 2) ∧ True) ∨ ((0 ≤ x1.toInt) ∧ (x1.toInt ≤ (I0 a0 1).toInt) ∧ ((lsF (gT, x1.toInt) 901 0 Q00) = 0) ∧ (v.toInt = (lsC (gT, x1.toInt) 901 0 Q00)) ∧ ((I' a0 1).toInt = 0) ∧ ((I' a0 15).toInt = 0) ∧ ((I' a0 17).toInt = 0) ∧ True) ∨ ((0 ≤ x1.toInt) ∧ (x1.toInt ≤ (I0 a0 1).toInt) ∧ ((lsF (gT, x1.toInt) 901 0 Q00) ≠ 0) ∧ (v.toInt = -1) ∧ ((I' a0 1).toInt = 0) ∧ ((I' a0 15).toInt = (lsF (gT, x1.toInt) 901 0 Q00)) ∧ ((I' a0 16).toInt = (lsP (gT, x1.toInt) 901 0 Q00)) ∧ ((I' a0 17).toInt = 4) ∧ True)) ∧ True)) := by
  refine ConE.of (by decide +kernel) rfl (Nat.le_of_ble_eq_true rfl) rfl (fun X hX hZ hE => ?_)
  subst hX
  have hS0 : St T cn K N d wik_X10_alp wrk_X10_alp I0 R0 I0 R0 := St.rf0 hW0
  have hL0 : LgS T wlk_X10_alp L0 L0 := LgS.rf0
  obtain ⟨v1, c2⟩ : ∃ v, I0 a0 1 = v := ⟨_, rfl⟩
  have b3 := iv1_1 hS0.1 ta0 c2
  obtain ⟨v4, c5⟩ : ∃ v, I0 a0 15 = v := ⟨_, rfl⟩
  obtain ⟨v6, c7⟩ : ∃ v, I0 a0 16 = v := ⟨_, rfl⟩
  refine tr_iload_n dX10_alp_0 rfl ?_
  refine q_if_lt 12 dX10_alp_1 (by decide) (fun h8 => ?_) (fun h8 => ?_)
  · skip
    refine tr_aload_n dX10_alp_12 rfl ?_
    refine q_iconst dX10_alp_13 (by decide) ?_
    intro v9 h10
    refine q_callVi hE (M' := mX10_refused) (as := [_]) dX10_alp_14 lk10_79 inX10_refused seX10_refused myX10_refused (by decide) ⟨by decide, by decide⟩ rfl (kR1 hS0.1 ta0) (Nat.le_of_ble_eq_true rfl) rfl rfl (by decide) (by decide) (fk_X10_refused hS0.1  ta0) ?_
    rintro v16 cn' K' N' I11 R12 L13 ⟨rfl, rfl, rfl, rfl, rfl, g14, p17, p18, -⟩
    have hS19 := hS0.tr g14 (by decide +kernel) (by decide +kernel)
    have c20 : I11 a0 1 = v1 := (g14.cell ta0 (by decide +kernel)).trans c2
    have c21 : I11 a0 15 = v4 := (g14.cell ta0 (by decide +kernel)).trans c5
    have c22 : I11 a0 16 = v6 := (g14.cell ta0 (by decide +kernel)).trans c7
    obtain ⟨v23, c24⟩ : ∃ v, I11 a0 17 = v := ⟨_, rfl⟩
    rw [c24] at p18
    exact tr_iret hZ dX10_alp_17 rfl (by decide) (by decide) ⟨v16, rfl, rfl, rfl, rfl, hS19, hL0, (Or.inl ⟨(by (try rw [c2]); first | done | omega), (by first | done | omega), (by (try rw [c20]); (try rw [c2]); first | done | omega), (by (try rw [c21]); (try rw [c5]); first | done | omega), (by (try rw [c22]); (try rw [c7]); first | done | omega), (by (try rw [c24]); first | done | omega), trivial⟩), trivial⟩
  · skip
    refine tr_iload_n dX10_alp_4 rfl ?_
    refine tr_aload_n dX10_alp_5 rfl ?_
    refine q_getI dX10_alp_6 fl10_71 (kR1 hS0.1 ta0) c2 ?_
    refine q_icmp_le 18 dX10_alp_9 (by decide) (fun h25 => ?_) (fun h25 => ?_)
    · skip
      refine tr_aload_n dX10_alp_18 rfl ?_
      obtain ⟨a26, d27, ta26⟩ := rf1_4 hW0 ta0
      refine tr_getR dX10_alp_19 fl10_28 (kR1 hS0.1 ta0) d27 ?_
      refine tr_aload_n dX10_alp_22 rfl ?_
      obtain ⟨a28, d29, ta28⟩ := rf1_3 hS0.1 ta0
      refine tr_getR dX10_alp_23 fl10_20 (kR1 hS0.1 ta0) d29 ?_
      refine tr_iload_n dX10_alp_26 rfl ?_
      refine q_callVi hE (M' := mX7_readAll) (as := [_, _]) dX10_alp_27 lk10_83 inX7_readAll seX7_readAll myX7_readAll (by decide) ⟨by decide, by decide⟩ rfl (kR7 hS0.1 ta26) (Nat.le_of_ble_eq_true rfl) rfl rfl (by decide) (by decide) (fk_X7_readAll hS0.1 ((gT, x1.toInt)) ta26 ta28 (by omega) (Tx.ec hY hU d27 (by omega) (by omega)) (by first | done | omega)) ?_
      rintro v35 cn' K' N' I30 R31 L32 ⟨rfl, rfl, rfl, g33, gl34, h36, dj37, -⟩
      have hS38 := hS0.tr g33 (by decide +kernel) (by decide +kernel)
      have c39 : I30 a0 1 = v1 := (g33.cell ta0 (by decide +kernel)).trans c2
      have c40 : I30 a0 15 = v4 := (g33.cell ta0 (by decide +kernel)).trans c5
      have c41 : I30 a0 16 = v6 := (g33.cell ta0 (by decide +kernel)).trans c7
      have d42 : R31 a0 3 = some a28 := (g33.rcell ta0 (by decide +kernel)).trans d29
      have hL43 := hL0.tr gl34 (by decide +kernel)
      rcases dj37 with ⟨p44, p45, p46, p47, -⟩ | ⟨p48, p49, p50, p51, -⟩
      · skip
        obtain ⟨v52, c53⟩ : ∃ v, I30 a26 15 = v := ⟨_, rfl⟩
        rw [c53] at p46
        obtain ⟨v54, c55⟩ : ∃ v, I30 a28 5 = v := ⟨_, rfl⟩
        have b56 := iv2_5 hS38.1 ta28 c55
        rw [c55] at p47
        refine tr_istore_n dX10_alp_30 (by decide) (by decide) ?_
        refine tr_aload_n dX10_alp_31 rfl ?_
        refine q_iconst dX10_alp_32 (by decide) ?_
        intro v57 h58
        refine q_putI dX10_alp_33 fl10_71 (kR1 hS38.1 ta0) (Or.inl rfl) hS38 ta0 (by show (0 : Int) ≤ v57.toInt ∧ v57.toInt ≤ (900 : Int); omega) rfl (by decide +kernel) ?_
        intro I59 hS60 e61 f62
        have c63 : I59 a0 15 = v4 := (f62 _ _ (fun q => absurd q.2 (by decide))).trans c40
        have c64 : I59 a0 16 = v6 := (f62 _ _ (fun q => absurd q.2 (by decide))).trans c41
        have c65 : I59 a26 15 = v52 := (f62 _ _ (fun q => absurd q.2 (by decide))).trans c53
        have c66 : I59 a28 5 = v54 := (f62 _ _ (fun q => absurd q.2 (by decide))).trans c55
        refine tr_aload_n dX10_alp_36 rfl ?_
        refine tr_aload_n dX10_alp_37 rfl ?_
        refine tr_getR dX10_alp_38 fl10_28 (kR1 hS60.1 ta0) ((hS60.rcell ta0 (by decide +kernel)).trans d27) ?_
        refine q_getI dX10_alp_41 fl10_87 (kR7 hS60.1 ta26) c65 ?_
        refine q_putI dX10_alp_44 fl10_90 (kR1 hS60.1 ta0) (Or.inl rfl) hS60 ta0 (iokF rfl) rfl (by decide +kernel) ?_
        intro I67 hS68 e69 f70
        have c71 : I67 a0 16 = v6 := (f70 _ _ (fun q => absurd q.2 (by decide))).trans c64
        have c72 : I67 a26 15 = v52 := (f70 _ _ (fun q => by have z := ta26; rw [q.1, ta0] at z; exact absurd z (by decide))).trans c65
        have c73 : I67 a28 5 = v54 := (f70 _ _ (fun q => absurd q.2 (by decide))).trans c66
        have c74 : I67 a0 1 = v57 := (f70 _ _ (fun q => absurd q.2 (by decide))).trans e61
        refine tr_aload_n dX10_alp_47 rfl ?_
        refine tr_aload_n dX10_alp_48 rfl ?_
        refine tr_getR dX10_alp_49 fl10_28 (kR1 hS68.1 ta0) ((hS68.rcell ta0 (by decide +kernel)).trans d27) ?_
        obtain ⟨v75, c76⟩ : ∃ v, I67 a26 16 = v := ⟨_, rfl⟩
        refine q_getI dX10_alp_52 fl10_91 (kR7 hS68.1 ta26) c76 ?_
        refine q_putI dX10_alp_55 fl10_94 (kR1 hS68.1 ta0) (Or.inl rfl) hS68 ta0 (iokF rfl) rfl (by decide +kernel) ?_
        intro I77 hS78 e79 f80
        have c81 : I77 a26 15 = v52 := (f80 _ _ (fun q => absurd q.2 (by decide))).trans c72
        have c82 : I77 a28 5 = v54 := (f80 _ _ (fun q => absurd q.2 (by decide))).trans c73
        have c83 : I77 a0 1 = v57 := (f80 _ _ (fun q => absurd q.2 (by decide))).trans c74
        have c84 : I77 a0 15 = v52 := (f80 _ _ (fun q => absurd q.2 (by decide))).trans e69
        have c85 : I77 a26 16 = v75 := (f80 _ _ (fun q => by have z := ta26; rw [q.1, ta0] at z; exact absurd z (by decide))).trans c76
        refine tr_iload_n dX10_alp_58 rfl ?_
        refine q_if_ne 68 dX10_alp_59 (by decide) (fun h86 => ?_) (fun h86 => ?_)
        · skip
          refine tr_aload_n dX10_alp_68 rfl ?_
          obtain ⟨a87, d88, ta87⟩ := rf1_2 hS78.1 ta0
          refine tr_getR dX10_alp_69 fl10_16 (kR1 hS78.1 ta0) d88 ?_
          refine tr_astore_n dX10_alp_72 (by decide) (by decide) ?_
          refine tr_aload_n dX10_alp_73 rfl ?_
          refine tr_aload_n dX10_alp_74 rfl ?_
          refine tr_getR dX10_alp_75 fl10_20 (kR1 hS78.1 ta0) d42 ?_
          refine q_putR dX10_alp_78 fl10_16 (kR1 hS78.1 ta0) (Or.inl rfl) hS78 ta0 (okR_in rfl rfl ta28) rfl (by decide +kernel) ?_
          intro R89 hS90 e91 f92
          have d93 : R89 a0 3 = some a28 := (f92 _ _ (fun q => absurd q.2 (by decide))).trans d42
          refine tr_aload_n dX10_alp_81 rfl ?_
          refine tr_aload_n dX10_alp_82 rfl ?_
          refine q_putR dX10_alp_83 fl10_20 (kR1 hS90.1 ta0) (Or.inl rfl) hS90 ta0 (okR_in rfl rfl ta87) rfl (by decide +kernel) ?_
          intro R94 hS95 e96 f97
          have d98 : R94 a0 2 = some a28 := (f97 _ _ (fun q => absurd q.2 (by decide))).trans e91
          refine tr_aload_n dX10_alp_86 rfl ?_
          refine q_iconst dX10_alp_87 (by decide) ?_
          intro v99 h100
          refine q_putZ dX10_alp_88 fl10_95 (kR1 hS95.1 ta0) (Or.inl rfl) hS95 ta0 (by omega) (by show (0 : Int) ≤ v99.toInt ∧ v99.toInt ≤ (1 : Int); omega) rfl (by decide +kernel) ?_
          intro I101 hS102 e103 f104
          have c105 : I101 a26 15 = v52 := (f104 _ _ (fun q => absurd q.2 (by decide))).trans c81
          have c106 : I101 a28 5 = v54 := (f104 _ _ (fun q => by have z := ta28; rw [q.1, ta0] at z; exact absurd z (by decide))).trans c82
          have c107 : I101 a0 1 = v57 := (f104 _ _ (fun q => absurd q.2 (by decide))).trans c83
          have c108 : I101 a0 15 = v52 := (f104 _ _ (fun q => absurd q.2 (by decide))).trans c84
          have c109 : I101 a26 16 = v75 := (f104 _ _ (fun q => absurd q.2 (by decide))).trans c85
          have c110 : I101 a0 16 = v75 := (f104 _ _ (fun q => absurd q.2 (by decide))).trans e79
          refine tr_aload_n dX10_alp_91 rfl ?_
          obtain ⟨a111, d112, ta111⟩ := rf1_6 hW0 ta0
          refine tr_getR dX10_alp_92 fl10_35 (kR1 hS102.1 ta0) ((hS102.rcell ta0 (by decide +kernel)).trans d112) ?_
          refine q_callVv hE (M' := mX3_clear) (as := []) dX10_alp_95 lk10_99 inX3_clear seX3_clear myX3_clear (by decide) ⟨by decide, by decide⟩ rfl (kR8 hS102.1 ta111) (Nat.le_of_ble_eq_true rfl) rfl rfl (by decide) (by decide) (k_X3_clear hS102.1 ta111) ?_
          rintro cn' K' N' I113 R114 L115 ⟨rfl, rfl, rfl, rfl, rfl, g116, -⟩
          have hS118 := hS102.tr g116 (by decide +kernel) (by decide +kernel)
          have c119 : I113 a26 15 = v52 := (g116.cell ta26 (by decide +kernel)).trans c105
          have c120 : I113 a28 5 = v54 := (g116.cell ta28 (by decide +kernel)).trans c106
          have c121 : I113 a0 1 = v57 := (g116.cell ta0 (by decide +kernel)).trans c107
          have c122 : I113 a0 15 = v52 := (g116.cell ta0 (by decide +kernel)).trans c108
          have c123 : I113 a26 16 = v75 := (g116.cell ta26 (by decide +kernel)).trans c109
          have c124 : I113 a0 16 = v75 := (g116.cell ta0 (by decide +kernel)).trans c110
          have c125 : I113 a0 5 = v99 := (g116.cell ta0 (by decide +kernel)).trans e103
          refine tr_aload_n dX10_alp_98 rfl ?_
          obtain ⟨a126, d127, ta126⟩ := rf1_7 hW0 ta0
          refine tr_getR dX10_alp_99 fl10_42 (kR1 hS118.1 ta0) ((hS118.rcell ta0 (by decide +kernel)).trans d127) ?_
          refine q_callVv hE (M' := mX6_clear) (as := []) dX10_alp_102 lk10_102 inX6_clear seX6_clear myX6_clear (by decide) ⟨by decide, by decide⟩ rfl (kR11 hS118.1 ta126) (Nat.le_of_ble_eq_true rfl) rfl rfl (by decide) (by decide) (k_X6_clear hS118.1 ta126) ?_
          rintro cn' K' N' I128 R129 L130 ⟨rfl, rfl, rfl, rfl, rfl, g131, -⟩
          have hS133 := hS118.tr g131 (by decide +kernel) (by decide +kernel)
          have c134 : I128 a26 15 = v52 := (g131.cell ta26 (by decide +kernel)).trans c119
          have c135 : I128 a28 5 = v54 := (g131.cell ta28 (by decide +kernel)).trans c120
          have c136 : I128 a0 1 = v57 := (g131.cell ta0 (by decide +kernel)).trans c121
          have c137 : I128 a0 15 = v52 := (g131.cell ta0 (by decide +kernel)).trans c122
          have c138 : I128 a26 16 = v75 := (g131.cell ta26 (by decide +kernel)).trans c123
          have c139 : I128 a0 16 = v75 := (g131.cell ta0 (by decide +kernel)).trans c124
          have c140 : I128 a0 5 = v99 := (g131.cell ta0 (by decide +kernel)).trans c125
          refine tr_aload_n dX10_alp_105 rfl ?_
          refine q_callVv hE (M' := mX10_cloudsMoved) (as := []) dX10_alp_106 lk10_103 inX10_cloudsMoved seX10_cloudsMoved myX10_cloudsMoved (by decide) ⟨by decide, by decide⟩ rfl (kR1 hS133.1 ta0) (Nat.le_of_ble_eq_true rfl) rfl rfl (by decide) (by decide) (k_X10_cloudsMoved hS133.1 ta0) ?_
          rintro cn' K' N' I141 R142 L143 ⟨rfl, rfl, rfl, rfl, rfl, g144, -⟩
          have hS146 := hS133.tr g144 (by decide +kernel) (by decide +kernel)
          have c147 : I141 a26 15 = v52 := (g144.cell ta26 (by decide +kernel)).trans c134
          have c148 : I141 a28 5 = v54 := (g144.cell ta28 (by decide +kernel)).trans c135
          have c149 : I141 a0 1 = v57 := (g144.cell ta0 (by decide +kernel)).trans c136
          have c150 : I141 a0 15 = v52 := (g144.cell ta0 (by decide +kernel)).trans c137
          have c151 : I141 a26 16 = v75 := (g144.cell ta26 (by decide +kernel)).trans c138
          have c152 : I141 a0 16 = v75 := (g144.cell ta0 (by decide +kernel)).trans c139
          have c153 : I141 a0 5 = v99 := (g144.cell ta0 (by decide +kernel)).trans c140
          refine tr_aload_n dX10_alp_109 rfl ?_
          refine tr_aload_n dX10_alp_110 rfl ?_
          refine tr_getR dX10_alp_111 fl10_16 (kR1 hS146.1 ta0) d98 ?_
          refine q_getI dX10_alp_114 fl10_106 (kR2 hS146.1 ta28) c148 ?_
          refine q_callVi hE (M' := mX10_answered) (as := [_]) dX10_alp_117 lk10_109 inX10_answered seX10_answered myX10_answered (by decide) ⟨by decide, by decide⟩ rfl (kR1 hS146.1 ta0) (Nat.le_of_ble_eq_true rfl) rfl rfl (by decide) (by decide) (fk_X10_answered hS146.1  ta0) ?_
          rintro v159 cn' K' N' I154 R155 L156 ⟨rfl, rfl, rfl, rfl, rfl, g157, p160, p161, -⟩
          have hS162 := hS146.tr g157 (by decide +kernel) (by decide +kernel)
          have c163 : I154 a26 15 = v52 := (g157.cell ta26 (by decide +kernel)).trans c147
          have c164 : I154 a28 5 = v54 := (g157.cell ta28 (by decide +kernel)).trans c148
          have c165 : I154 a0 1 = v57 := (g157.cell ta0 (by decide +kernel)).trans c149
          have c166 : I154 a0 15 = v52 := (g157.cell ta0 (by decide +kernel)).trans c150
          have c167 : I154 a26 16 = v75 := (g157.cell ta26 (by decide +kernel)).trans c151
          have c168 : I154 a0 16 = v75 := (g157.cell ta0 (by decide +kernel)).trans c152
          have c169 : I154 a0 5 = v99 := (g157.cell ta0 (by decide +kernel)).trans c153
          obtain ⟨v170, c171⟩ : ∃ v, I154 a0 17 = v := ⟨_, rfl⟩
          rw [c171] at p161
          exact tr_iret hZ dX10_alp_120 rfl (by decide) (by decide) ⟨v159, rfl, rfl, rfl, rfl, hS162, hL43, (Or.inr (Or.inl ⟨(by first | done | omega), (by (try rw [c2]); first | done | omega), (by first | done | omega), (by first | done | omega), (by (try rw [c165]); first | done | omega), (by (try rw [c166]); first | done | omega), (by (try rw [c171]); first | done | omega), trivial⟩)), trivial⟩
        · skip
          exfalso; omega
      · skip
        obtain ⟨v172, c173⟩ : ∃ v, I30 a26 15 = v := ⟨_, rfl⟩
        rw [c173] at p50
        obtain ⟨v174, c175⟩ : ∃ v, I30 a26 16 = v := ⟨_, rfl⟩
        rw [c175] at p51
        refine tr_istore_n dX10_alp_30 (by decide) (by decide) ?_
        refine tr_aload_n dX10_alp_31 rfl ?_
        refine q_iconst dX10_alp_32 (by decide) ?_
        intro v176 h177
        refine q_putI dX10_alp_33 fl10_71 (kR1 hS38.1 ta0) (Or.inl rfl) hS38 ta0 (by show (0 : Int) ≤ v176.toInt ∧ v176.toInt ≤ (900 : Int); omega) rfl (by decide +kernel) ?_
        intro I178 hS179 e180 f181
        have c182 : I178 a0 15 = v4 := (f181 _ _ (fun q => absurd q.2 (by decide))).trans c40
        have c183 : I178 a0 16 = v6 := (f181 _ _ (fun q => absurd q.2 (by decide))).trans c41
        have c184 : I178 a26 15 = v172 := (f181 _ _ (fun q => absurd q.2 (by decide))).trans c173
        have c185 : I178 a26 16 = v174 := (f181 _ _ (fun q => absurd q.2 (by decide))).trans c175
        refine tr_aload_n dX10_alp_36 rfl ?_
        refine tr_aload_n dX10_alp_37 rfl ?_
        refine tr_getR dX10_alp_38 fl10_28 (kR1 hS179.1 ta0) ((hS179.rcell ta0 (by decide +kernel)).trans d27) ?_
        refine q_getI dX10_alp_41 fl10_87 (kR7 hS179.1 ta26) c184 ?_
        refine q_putI dX10_alp_44 fl10_90 (kR1 hS179.1 ta0) (Or.inl rfl) hS179 ta0 (iokF rfl) rfl (by decide +kernel) ?_
        intro I186 hS187 e188 f189
        have c190 : I186 a0 16 = v6 := (f189 _ _ (fun q => absurd q.2 (by decide))).trans c183
        have c191 : I186 a26 15 = v172 := (f189 _ _ (fun q => by have z := ta26; rw [q.1, ta0] at z; exact absurd z (by decide))).trans c184
        have c192 : I186 a26 16 = v174 := (f189 _ _ (fun q => absurd q.2 (by decide))).trans c185
        have c193 : I186 a0 1 = v176 := (f189 _ _ (fun q => absurd q.2 (by decide))).trans e180
        refine tr_aload_n dX10_alp_47 rfl ?_
        refine tr_aload_n dX10_alp_48 rfl ?_
        refine tr_getR dX10_alp_49 fl10_28 (kR1 hS187.1 ta0) ((hS187.rcell ta0 (by decide +kernel)).trans d27) ?_
        refine q_getI dX10_alp_52 fl10_91 (kR7 hS187.1 ta26) c192 ?_
        refine q_putI dX10_alp_55 fl10_94 (kR1 hS187.1 ta0) (Or.inl rfl) hS187 ta0 (iokF rfl) rfl (by decide +kernel) ?_
        intro I194 hS195 e196 f197
        have c198 : I194 a26 15 = v172 := (f197 _ _ (fun q => absurd q.2 (by decide))).trans c191
        have c199 : I194 a26 16 = v174 := (f197 _ _ (fun q => by have z := ta26; rw [q.1, ta0] at z; exact absurd z (by decide))).trans c192
        have c200 : I194 a0 1 = v176 := (f197 _ _ (fun q => absurd q.2 (by decide))).trans c193
        have c201 : I194 a0 15 = v172 := (f197 _ _ (fun q => absurd q.2 (by decide))).trans e188
        refine tr_iload_n dX10_alp_58 rfl ?_
        refine q_if_ne 68 dX10_alp_59 (by decide) (fun h202 => ?_) (fun h202 => ?_)
        · skip
          exfalso; omega
        · skip
          refine tr_aload_n dX10_alp_62 rfl ?_
          refine q_iconst dX10_alp_63 (by decide) ?_
          intro v203 h204
          refine q_callVi hE (M' := mX10_refused) (as := [_]) dX10_alp_64 lk10_79 inX10_refused seX10_refused myX10_refused (by decide) ⟨by decide, by decide⟩ rfl (kR1 hS195.1 ta0) (Nat.le_of_ble_eq_true rfl) rfl rfl (by decide) (by decide) (fk_X10_refused hS195.1  ta0) ?_
          rintro v210 cn' K' N' I205 R206 L207 ⟨rfl, rfl, rfl, rfl, rfl, g208, p211, p212, -⟩
          have hS213 := hS195.tr g208 (by decide +kernel) (by decide +kernel)
          have c214 : I205 a26 15 = v172 := (g208.cell ta26 (by decide +kernel)).trans c198
          have c215 : I205 a26 16 = v174 := (g208.cell ta26 (by decide +kernel)).trans c199
          have c216 : I205 a0 1 = v176 := (g208.cell ta0 (by decide +kernel)).trans c200
          have c217 : I205 a0 15 = v172 := (g208.cell ta0 (by decide +kernel)).trans c201
          have c218 : I205 a0 16 = v174 := (g208.cell ta0 (by decide +kernel)).trans e196
          obtain ⟨v219, c220⟩ : ∃ v, I205 a0 17 = v := ⟨_, rfl⟩
          rw [c220] at p212
          exact tr_iret hZ dX10_alp_67 rfl (by decide) (by decide) ⟨v210, rfl, rfl, rfl, rfl, hS213, hL43, (Or.inr (Or.inr (⟨(by first | done | omega), (by (try rw [c2]); first | done | omega), (by first | done | omega), (by first | done | omega), (by (try rw [c216]); first | done | omega), (by (try rw [c217]); first | done | omega), (by (try rw [c218]); first | done | omega), (by (try rw [c220]); first | done | omega), trivial⟩))), trivial⟩
    · skip
      refine tr_aload_n dX10_alp_12 rfl ?_
      refine q_iconst dX10_alp_13 (by decide) ?_
      intro v221 h222
      refine q_callVi hE (M' := mX10_refused) (as := [_]) dX10_alp_14 lk10_79 inX10_refused seX10_refused myX10_refused (by decide) ⟨by decide, by decide⟩ rfl (kR1 hS0.1 ta0) (Nat.le_of_ble_eq_true rfl) rfl rfl (by decide) (by decide) (fk_X10_refused hS0.1  ta0) ?_
      rintro v228 cn' K' N' I223 R224 L225 ⟨rfl, rfl, rfl, rfl, rfl, g226, p229, p230, -⟩
      have hS231 := hS0.tr g226 (by decide +kernel) (by decide +kernel)
      have c232 : I223 a0 1 = v1 := (g226.cell ta0 (by decide +kernel)).trans c2
      have c233 : I223 a0 15 = v4 := (g226.cell ta0 (by decide +kernel)).trans c5
      have c234 : I223 a0 16 = v6 := (g226.cell ta0 (by decide +kernel)).trans c7
      obtain ⟨v235, c236⟩ : ∃ v, I223 a0 17 = v := ⟨_, rfl⟩
      rw [c236] at p230
      exact tr_iret hZ dX10_alp_17 rfl (by decide) (by decide) ⟨v228, rfl, rfl, rfl, rfl, hS231, hL0, (Or.inl ⟨(by (try rw [c2]); first | done | omega), (by first | done | omega), (by (try rw [c232]); (try rw [c2]); first | done | omega), (by (try rw [c233]); (try rw [c5]); first | done | omega), (by (try rw [c234]); (try rw [c7]); first | done | omega), (by (try rw [c236]); first | done | omega), trivial⟩), trivial⟩
