def wi_X12_begins : List Nat := [968, 969, 970, 971, 972, 973, 974]
def wr_X12_begins : List Nat := []
set_option maxHeartbeats 4000000 in
theorem k_X12_begins {l : Launch} {T : Nat → Nat} {cn : Nat} {K N : Nat → Nat} {I0 : cz_I} {R0 : cz_R} {L0 : cz_L} {d : Int} (hW0 : Wf T cn K N I0 R0 d) {a0 : Nat} (ta0 : T a0 = 15) {x1 : Int32} {x2 : Int32} (nn4 : ∃ b, R0 a0 4 = some b) : ConE l mX12_begins [.ref a0, .int x1, .int x2] cn K N I0 R0 L0 (ca_v (fun cn' K' N' I' R' L' => cn = cn' ∧ K = K' ∧ N = N' ∧ R0 = R' ∧ St T cn K N d wi_X12_begins wr_X12_begins I0 R0 I' R0 ∧ (((I0 a0 9).toInt = 5 → (I' a0 9).toInt = 5)) ∧ ((I' a0 8).toInt ≥ (I0 a0 8).toInt) ∧ (((2 ≤ (I' a0 9).toInt ∧ (I' a0 9).toInt ≤ 4) → (I' a0 8).toInt ≥ (I0 a0 8).toInt + 1)) ∧ ((((I0 a0 9).toInt = 5 → (I0 a0 13).toInt ≥ 1) → ((I' a0 9).toInt = 5 → (I' a0 13).toInt ≥ 1))) ∧ (((I' a0 9).toInt ≠ 5 → x1.toInt ≠ x2.toInt)) ∧ True)) := by
  refine ConE.of (by decide +kernel) rfl (Nat.le_of_ble_eq_true rfl) rfl (fun X hX hZ hE => ?_)
  subst hX
  have hS0 : St T cn K N d wi_X12_begins wr_X12_begins I0 R0 I0 R0 := St.rf0 hW0
  obtain ⟨a1, d2⟩ := nn4
  have ta1 : T a1 = 14 := hW0.rsN ta0 rfl d2
  obtain ⟨v3, c4⟩ : ∃ v, I0 a0 9 = v := ⟨_, rfl⟩
  have b5 := iv15_9 hS0.1 ta0 c4
  obtain ⟨v6, c7⟩ : ∃ v, I0 a0 8 = v := ⟨_, rfl⟩
  have b8 := iv15_8 hS0.1 ta0 c7
  obtain ⟨v9, c10⟩ : ∃ v, I0 a0 13 = v := ⟨_, rfl⟩
  refine tr_iload_n dX12_begins_0 rfl ?_
  refine tr_iload_n dX12_begins_1 rfl ?_
  refine q_icmp_ne 10 dX12_begins_2 (by decide) (fun h11 => ?_) (fun h11 => ?_)
  · skip
    refine tr_aload_n dX12_begins_10 rfl ?_
    refine tr_getR dX12_begins_11 fl12_188 (kR15 hS0.1 ta0) d2 ?_
    obtain ⟨v12, c13⟩ : ∃ v, I0 a1 0 = v := ⟨_, rfl⟩
    have b14 := iv14_0 hW0 ta1 c13
    refine q_getI dX12_begins_14 fl12_192 (kR14 hS0.1 ta1) c13 ?_
    refine q_if_ne 26 dX12_begins_17 (by decide) (fun h15 => ?_) (fun h15 => ?_)
    · skip
      refine tr_aload_n dX12_begins_26 rfl ?_
      refine q_callVv hE (M' := mX12_goesOn) (as := []) dX12_begins_27 lk12_142 inX12_goesOn seX12_goesOn myX12_goesOn (by decide) ⟨by decide, by decide⟩ rfl (kR15 hS0.1 ta0) (Nat.le_of_ble_eq_true rfl) rfl rfl (by decide) (by decide) (k_X12_goesOn hS0.1 ta0) ?_
      rintro cn' K' N' I16 R17 L18 ⟨rfl, rfl, rfl, rfl, g19, p21, p22, p23, p24, -⟩
      have hS25 := hS0.tr g19 (by decide +kernel) (by decide +kernel)
      have c26 : I16 a0 13 = v9 := (g19.cell ta0 (by decide +kernel)).trans c10
      obtain ⟨v27, c28⟩ : ∃ v, I16 a0 9 = v := ⟨_, rfl⟩
      have b29 := iv15_9 hS25.1 ta0 c28
      obtain ⟨v30, c31⟩ : ∃ v, I16 a0 8 = v := ⟨_, rfl⟩
      have b32 := iv15_8 hS25.1 ta0 c31
      have p33 := p21
      rw [c4] at p33
      rw [c28] at p33
      rw [c31] at p33
      rw [c7] at p33
      have p34 := p22
      rw [c4] at p34
      rw [c28] at p34
      have p35 := p23
      rw [c31] at p35
      rw [c7] at p35
      have p36 := p24
      rw [c4] at p36
      rw [c28] at p36
      rw [c31] at p36
      rw [c7] at p36
      exact tr_vret hZ dX12_begins_30 rfl (by decide) (by decide) ⟨rfl, rfl, rfl, rfl, rfl, hS25, (by (try rw [c4]); (try rw [c28]); (try omega)), (by (try rw [c31]); (try rw [c7]); (try omega)), (by (try rw [c28]); (try rw [c31]); (try rw [c7]); (try omega)), (by (try rw [c4]); (try rw [c10]); (try rw [c28]); (try rw [c26]); (try omega)), (by (try rw [c28]); (try omega)), trivial⟩
    · skip
      refine tr_aload_n dX12_begins_20 rfl ?_
      refine q_bipush dX12_begins_21 (by decide +kernel) ?_
      intro v37 h38
      refine q_callVv hE (M' := mX12_flaw) (as := [_]) dX12_begins_23 lk12_145 inX12_flaw seX12_flaw myX12_flaw (by decide) ⟨by decide, by decide⟩ rfl (kR15 hS0.1 ta0) (Nat.le_of_ble_eq_true rfl) rfl rfl (by decide) (by decide) (k_X12_flaw hS0.1 ta0 (by omega)) ?_
      rintro cn' K' N' I39 R40 L41 ⟨rfl, rfl, rfl, rfl, rfl, g42, p44, p45, -⟩
      have hS46 := hS0.tr g42 (by decide +kernel) (by decide +kernel)
      have c47 : I39 a0 8 = v6 := (g42.cell ta0 (by decide +kernel)).trans c7
      obtain ⟨v48, c49⟩ : ∃ v, I39 a0 9 = v := ⟨_, rfl⟩
      have b50 := iv15_9 hS46.1 ta0 c49
      have p51 := p44
      rw [c49] at p51
      obtain ⟨v52, c53⟩ : ∃ v, I39 a0 13 = v := ⟨_, rfl⟩
      have p54 := p45
      rw [c4] at p54
      rw [c10] at p54
      rw [c53] at p54
      refine tr_aload_n dX12_begins_26 rfl ?_
      refine q_callVv hE (M' := mX12_goesOn) (as := []) dX12_begins_27 lk12_142 inX12_goesOn seX12_goesOn myX12_goesOn (by decide) ⟨by decide, by decide⟩ rfl (kR15 hS46.1 ta0) (Nat.le_of_ble_eq_true rfl) rfl rfl (by decide) (by decide) (k_X12_goesOn hS46.1 ta0) ?_
      rintro cn' K' N' I55 R56 L57 ⟨rfl, rfl, rfl, rfl, g58, p60, p61, p62, p63, -⟩
      have hS64 := hS46.tr g58 (by decide +kernel) (by decide +kernel)
      have c65 : I55 a0 13 = v52 := (g58.cell ta0 (by decide +kernel)).trans c53
      obtain ⟨v66, c67⟩ : ∃ v, I55 a0 9 = v := ⟨_, rfl⟩
      have b68 := iv15_9 hS64.1 ta0 c67
      obtain ⟨v69, c70⟩ : ∃ v, I55 a0 8 = v := ⟨_, rfl⟩
      have b71 := iv15_8 hS64.1 ta0 c70
      have p72 := p60
      rw [c49] at p72
      rw [c67] at p72
      rw [c70] at p72
      rw [c47] at p72
      have p73 := p61
      rw [c49] at p73
      rw [c67] at p73
      have p74 := p62
      rw [c70] at p74
      rw [c47] at p74
      have p75 := p63
      rw [c49] at p75
      rw [c67] at p75
      rw [c70] at p75
      rw [c47] at p75
      exact tr_vret hZ dX12_begins_30 rfl (by decide) (by decide) ⟨rfl, rfl, rfl, rfl, rfl, hS64, (by (try rw [c4]); (try rw [c67]); (try omega)), (by (try rw [c70]); (try rw [c7]); (try omega)), (by (try rw [c67]); (try rw [c70]); (try rw [c7]); (try omega)), (by (try rw [c4]); (try rw [c10]); (try rw [c67]); (try rw [c65]); (try omega)), (by (try rw [c67]); (try omega)), trivial⟩
  · skip
    refine tr_aload_n dX12_begins_5 rfl ?_
    refine q_iconst dX12_begins_6 (by decide) ?_
    intro v76 h77
    refine q_callVv hE (M' := mX12_flaw) (as := [_]) dX12_begins_7 lk12_145 inX12_flaw seX12_flaw myX12_flaw (by decide) ⟨by decide, by decide⟩ rfl (kR15 hS0.1 ta0) (Nat.le_of_ble_eq_true rfl) rfl rfl (by decide) (by decide) (k_X12_flaw hS0.1 ta0 (by omega)) ?_
    rintro cn' K' N' I78 R79 L80 ⟨rfl, rfl, rfl, rfl, rfl, g81, p83, p84, -⟩
    have hS85 := hS0.tr g81 (by decide +kernel) (by decide +kernel)
    have c86 : I78 a0 8 = v6 := (g81.cell ta0 (by decide +kernel)).trans c7
    obtain ⟨v87, c88⟩ : ∃ v, I78 a0 9 = v := ⟨_, rfl⟩
    have b89 := iv15_9 hS85.1 ta0 c88
    have p90 := p83
    rw [c88] at p90
    obtain ⟨v91, c92⟩ : ∃ v, I78 a0 13 = v := ⟨_, rfl⟩
    have p93 := p84
    rw [c4] at p93
    rw [c10] at p93
    rw [c92] at p93
    refine tr_aload_n dX12_begins_10 rfl ?_
    refine tr_getR dX12_begins_11 fl12_188 (kR15 hS85.1 ta0) d2 ?_
    obtain ⟨v94, c95⟩ : ∃ v, I0 a1 0 = v := ⟨_, rfl⟩
    have b96 := iv14_0 hW0 ta1 c95
    refine q_getI dX12_begins_14 fl12_192 (kR14 hS85.1 ta1) ((hS85.cell ta1 (by decide +kernel)).trans c95) ?_
    refine q_if_ne 26 dX12_begins_17 (by decide) (fun h97 => ?_) (fun h97 => ?_)
    · skip
      refine tr_aload_n dX12_begins_26 rfl ?_
      refine q_callVv hE (M' := mX12_goesOn) (as := []) dX12_begins_27 lk12_142 inX12_goesOn seX12_goesOn myX12_goesOn (by decide) ⟨by decide, by decide⟩ rfl (kR15 hS85.1 ta0) (Nat.le_of_ble_eq_true rfl) rfl rfl (by decide) (by decide) (k_X12_goesOn hS85.1 ta0) ?_
      rintro cn' K' N' I98 R99 L100 ⟨rfl, rfl, rfl, rfl, g101, p103, p104, p105, p106, -⟩
      have hS107 := hS85.tr g101 (by decide +kernel) (by decide +kernel)
      have c108 : I98 a0 13 = v91 := (g101.cell ta0 (by decide +kernel)).trans c92
      obtain ⟨v109, c110⟩ : ∃ v, I98 a0 9 = v := ⟨_, rfl⟩
      have b111 := iv15_9 hS107.1 ta0 c110
      obtain ⟨v112, c113⟩ : ∃ v, I98 a0 8 = v := ⟨_, rfl⟩
      have b114 := iv15_8 hS107.1 ta0 c113
      have p115 := p103
      rw [c88] at p115
      rw [c110] at p115
      rw [c113] at p115
      rw [c86] at p115
      have p116 := p104
      rw [c88] at p116
      rw [c110] at p116
      have p117 := p105
      rw [c113] at p117
      rw [c86] at p117
      have p118 := p106
      rw [c88] at p118
      rw [c110] at p118
      rw [c113] at p118
      rw [c86] at p118
      exact tr_vret hZ dX12_begins_30 rfl (by decide) (by decide) ⟨rfl, rfl, rfl, rfl, rfl, hS107, (by (try rw [c4]); (try rw [c110]); (try omega)), (by (try rw [c113]); (try rw [c7]); (try omega)), (by (try rw [c110]); (try rw [c113]); (try rw [c7]); (try omega)), (by (try rw [c4]); (try rw [c10]); (try rw [c110]); (try rw [c108]); (try omega)), (by (try rw [c110]); (try omega)), trivial⟩
    · skip
      refine tr_aload_n dX12_begins_20 rfl ?_
      refine q_bipush dX12_begins_21 (by decide +kernel) ?_
      intro v119 h120
      refine q_callVv hE (M' := mX12_flaw) (as := [_]) dX12_begins_23 lk12_145 inX12_flaw seX12_flaw myX12_flaw (by decide) ⟨by decide, by decide⟩ rfl (kR15 hS85.1 ta0) (Nat.le_of_ble_eq_true rfl) rfl rfl (by decide) (by decide) (k_X12_flaw hS85.1 ta0 (by omega)) ?_
      rintro cn' K' N' I121 R122 L123 ⟨rfl, rfl, rfl, rfl, rfl, g124, p126, p127, -⟩
      have hS128 := hS85.tr g124 (by decide +kernel) (by decide +kernel)
      have c129 : I121 a0 8 = v6 := (g124.cell ta0 (by decide +kernel)).trans c86
      obtain ⟨v130, c131⟩ : ∃ v, I121 a0 9 = v := ⟨_, rfl⟩
      have b132 := iv15_9 hS128.1 ta0 c131
      have p133 := p126
      rw [c131] at p133
      obtain ⟨v134, c135⟩ : ∃ v, I121 a0 13 = v := ⟨_, rfl⟩
      have p136 := p127
      rw [c88] at p136
      rw [c92] at p136
      rw [c135] at p136
      refine tr_aload_n dX12_begins_26 rfl ?_
      refine q_callVv hE (M' := mX12_goesOn) (as := []) dX12_begins_27 lk12_142 inX12_goesOn seX12_goesOn myX12_goesOn (by decide) ⟨by decide, by decide⟩ rfl (kR15 hS128.1 ta0) (Nat.le_of_ble_eq_true rfl) rfl rfl (by decide) (by decide) (k_X12_goesOn hS128.1 ta0) ?_
      rintro cn' K' N' I137 R138 L139 ⟨rfl, rfl, rfl, rfl, g140, p142, p143, p144, p145, -⟩
      have hS146 := hS128.tr g140 (by decide +kernel) (by decide +kernel)
      have c147 : I137 a0 13 = v134 := (g140.cell ta0 (by decide +kernel)).trans c135
      obtain ⟨v148, c149⟩ : ∃ v, I137 a0 9 = v := ⟨_, rfl⟩
      have b150 := iv15_9 hS146.1 ta0 c149
      obtain ⟨v151, c152⟩ : ∃ v, I137 a0 8 = v := ⟨_, rfl⟩
      have b153 := iv15_8 hS146.1 ta0 c152
      have p154 := p142
      rw [c131] at p154
      rw [c149] at p154
      rw [c152] at p154
      rw [c129] at p154
      have p155 := p143
      rw [c131] at p155
      rw [c149] at p155
      have p156 := p144
      rw [c152] at p156
      rw [c129] at p156
      have p157 := p145
      rw [c131] at p157
      rw [c149] at p157
      rw [c152] at p157
      rw [c129] at p157
      exact tr_vret hZ dX12_begins_30 rfl (by decide) (by decide) ⟨rfl, rfl, rfl, rfl, rfl, hS146, (by (try rw [c4]); (try rw [c149]); (try omega)), (by (try rw [c152]); (try rw [c7]); (try omega)), (by (try rw [c149]); (try rw [c152]); (try rw [c7]); (try omega)), (by (try rw [c4]); (try rw [c10]); (try rw [c149]); (try rw [c147]); (try omega)), (by (try rw [c149]); (try omega)), trivial⟩
def wi_X12_bounded : List Nat := [969, 973, 974]
def wr_X12_bounded : List Nat := []
set_option maxHeartbeats 4000000 in
theorem k_X12_bounded {l : Launch} {T : Nat → Nat} {cn : Nat} {K N : Nat → Nat} {I0 : cz_I} {R0 : cz_R} {L0 : cz_L} {d : Int} (hW0 : Wf T cn K N I0 R0 d) {a0 : Nat} (ta0 : T a0 = 15) {x1 : Int32} {x2 : Int32} : ConE l mX12_bounded [.ref a0, .int x1, .int x2] cn K N I0 R0 L0 (ca_i (fun v cn' K' N' I' R' L' => cn = cn' ∧ K = K' ∧ N = N' ∧ R0 = R' ∧ L0 = L' ∧ St T cn K N d wi_X12_bounded wr_X12_bounded I0 R0 I' R0 ∧ (((I0 a0 9).toInt = 5 → (I' a0 9).toInt = 5)) ∧ ((v.toInt = x1.toInt ∨ (x1.toInt ≤ v.toInt ∧ v.toInt ≤ x2.toInt))) ∧ (((I' a0 9).toInt ≠ 5 → (((x1.toInt ≤ v.toInt ∧ v.toInt ≤ x2.toInt) ∧ (I0 a0 9).toInt = 3) ∧ (I' a0 9).toInt = 3))) ∧ ((((I0 a0 9).toInt = 5 → (I0 a0 13).toInt ≥ 1) → ((I' a0 9).toInt = 5 → (I' a0 13).toInt ≥ 1))) ∧ True)) := by
  refine ConE.of (by decide +kernel) rfl (Nat.le_of_ble_eq_true rfl) rfl (fun X hX hZ hE => ?_)
  subst hX
  have hS0 : St T cn K N d wi_X12_bounded wr_X12_bounded I0 R0 I0 R0 := St.rf0 hW0
  obtain ⟨v1, c2⟩ : ∃ v, I0 a0 9 = v := ⟨_, rfl⟩
  have b3 := iv15_9 hS0.1 ta0 c2
  obtain ⟨v4, c5⟩ : ∃ v, I0 a0 13 = v := ⟨_, rfl⟩
  refine tr_aload_n dX12_bounded_0 rfl ?_
  refine q_getI dX12_bounded_1 fl12_99 (kR15 hS0.1 ta0) c2 ?_
  refine q_iconst dX12_bounded_4 (by decide) ?_
  intro v6 h7
  refine q_icmp_eq 16 dX12_bounded_5 (by decide) (fun h8 => ?_) (fun h8 => ?_)
  · skip
    refine tr_aload_n dX12_bounded_16 rfl ?_
    obtain ⟨v9, c10⟩ : ∃ v, I0 a0 12 = v := ⟨_, rfl⟩
    refine q_getI dX12_bounded_17 fl12_125 (kR15 hS0.1 ta0) c10 ?_
    refine tr_iload_n dX12_bounded_20 rfl ?_
    refine tr_iload_n dX12_bounded_21 rfl ?_
    refine q_callSi hE (M' := mX12_in) (as := [_, _, _]) dX12_bounded_22 lk12_149 inX12_in myX12_in ⟨by decide, by decide⟩ rfl (Nat.le_of_ble_eq_true rfl) rfl rfl (by decide) (by decide) (k_X12_in hS0.1 ) ?_
    rintro v15 cn' K' N' I11 R12 L13 ⟨rfl, rfl, rfl, rfl, rfl, rfl, h16, p17, p18, -⟩
    have p19 := p17
    have p20 := p18
    refine q_if_ne 33 dX12_bounded_25 (by decide) (fun h21 => ?_) (fun h21 => ?_)
    · skip
      refine tr_aload_n dX12_bounded_33 rfl ?_
      refine q_getI dX12_bounded_34 fl12_99 (kR15 hS0.1 ta0) c2 ?_
      refine q_iconst dX12_bounded_37 (by decide) ?_
      intro v22 h23
      refine q_icmp_ne 45 dX12_bounded_38 (by decide) (fun h24 => ?_) (fun h24 => ?_)
      · skip
        refine tr_aload_n dX12_bounded_45 rfl ?_
        refine q_getI dX12_bounded_46 fl12_125 (kR15 hS0.1 ta0) c10 ?_
        exact tr_iret hZ dX12_bounded_49 rfl (by decide) (by decide) ⟨v9, rfl, rfl, rfl, rfl, rfl, rfl, hS0, (by (try rw [c2]); (try omega)), (by omega), (by (try rw [c2]); (try omega)), (by (try rw [c2]); (try rw [c5]); (try omega)), trivial⟩
      · skip
        exfalso; omega
    · skip
      refine tr_aload_n dX12_bounded_28 rfl ?_
      refine q_iconst dX12_bounded_29 (by decide) ?_
      intro v25 h26
      refine q_callVv hE (M' := mX12_flaw) (as := [_]) dX12_bounded_30 lk12_145 inX12_flaw seX12_flaw myX12_flaw (by decide) ⟨by decide, by decide⟩ rfl (kR15 hS0.1 ta0) (Nat.le_of_ble_eq_true rfl) rfl rfl (by decide) (by decide) (k_X12_flaw hS0.1 ta0 (by omega)) ?_
      rintro cn' K' N' I27 R28 L29 ⟨rfl, rfl, rfl, rfl, rfl, g30, p32, p33, -⟩
      have hS34 := hS0.tr g30 (by decide +kernel) (by decide +kernel)
      obtain ⟨v35, c36⟩ : ∃ v, I27 a0 9 = v := ⟨_, rfl⟩
      have b37 := iv15_9 hS34.1 ta0 c36
      have p38 := p32
      rw [c36] at p38
      obtain ⟨v39, c40⟩ : ∃ v, I27 a0 13 = v := ⟨_, rfl⟩
      have p41 := p33
      rw [c2] at p41
      rw [c5] at p41
      rw [c40] at p41
      refine tr_aload_n dX12_bounded_33 rfl ?_
      refine q_getI dX12_bounded_34 fl12_99 (kR15 hS34.1 ta0) c36 ?_
      refine q_iconst dX12_bounded_37 (by decide) ?_
      intro v42 h43
      refine q_icmp_ne 45 dX12_bounded_38 (by decide) (fun h44 => ?_) (fun h44 => ?_)
      · skip
        exfalso; omega
      · skip
        refine tr_iload_n dX12_bounded_41 rfl ?_
        refine tr_goto 49 dX12_bounded_42 (by decide) ?_
        exact tr_iret hZ dX12_bounded_49 rfl (by decide) (by decide) ⟨x1, rfl, rfl, rfl, rfl, rfl, rfl, hS34, (by (try rw [c2]); (try rw [c36]); (try omega)), (by omega), (by (try rw [c36]); (try rw [c2]); (try omega)), (by (try rw [c2]); (try rw [c5]); (try rw [c36]); (try rw [c40]); (try omega)), trivial⟩
  · skip
    refine tr_aload_n dX12_bounded_8 rfl ?_
    refine q_iconst dX12_bounded_9 (by decide) ?_
    intro v45 h46
    refine q_callVv hE (M' := mX12_flaw) (as := [_]) dX12_bounded_10 lk12_145 inX12_flaw seX12_flaw myX12_flaw (by decide) ⟨by decide, by decide⟩ rfl (kR15 hS0.1 ta0) (Nat.le_of_ble_eq_true rfl) rfl rfl (by decide) (by decide) (k_X12_flaw hS0.1 ta0 (by omega)) ?_
    rintro cn' K' N' I47 R48 L49 ⟨rfl, rfl, rfl, rfl, rfl, g50, p52, p53, -⟩
    have hS54 := hS0.tr g50 (by decide +kernel) (by decide +kernel)
    obtain ⟨v55, c56⟩ : ∃ v, I47 a0 9 = v := ⟨_, rfl⟩
    have b57 := iv15_9 hS54.1 ta0 c56
    have p58 := p52
    rw [c56] at p58
    obtain ⟨v59, c60⟩ : ∃ v, I47 a0 13 = v := ⟨_, rfl⟩
    have p61 := p53
    rw [c2] at p61
    rw [c5] at p61
    rw [c60] at p61
    refine tr_goto 33 dX12_bounded_13 (by decide) ?_
    refine tr_aload_n dX12_bounded_33 rfl ?_
    refine q_getI dX12_bounded_34 fl12_99 (kR15 hS54.1 ta0) c56 ?_
    refine q_iconst dX12_bounded_37 (by decide) ?_
    intro v62 h63
    refine q_icmp_ne 45 dX12_bounded_38 (by decide) (fun h64 => ?_) (fun h64 => ?_)
    · skip
      exfalso; omega
    · skip
      refine tr_iload_n dX12_bounded_41 rfl ?_
      refine tr_goto 49 dX12_bounded_42 (by decide) ?_
      exact tr_iret hZ dX12_bounded_49 rfl (by decide) (by decide) ⟨x1, rfl, rfl, rfl, rfl, rfl, rfl, hS54, (by (try rw [c2]); (try rw [c56]); (try omega)), (by omega), (by (try rw [c56]); (try rw [c2]); (try omega)), (by (try rw [c2]); (try rw [c5]); (try rw [c56]); (try rw [c60]); (try omega)), trivial⟩
def wi_X12_eatsSign : List Nat := [968, 969, 970, 971, 972]
def wr_X12_eatsSign : List Nat := []
set_option maxHeartbeats 4000000 in
theorem k_X12_eatsSign {l : Launch} {T : Nat → Nat} {cn : Nat} {K N : Nat → Nat} {I0 : cz_I} {R0 : cz_R} {L0 : cz_L} {d : Int} (hW0 : Wf T cn K N I0 R0 d) {a0 : Nat} (ta0 : T a0 = 15) {x1 : Int32} : ConE l mX12_eatsSign [.ref a0, .int x1] cn K N I0 R0 L0 (ca_i (fun v cn' K' N' I' R' L' => cn = cn' ∧ K = K' ∧ N = N' ∧ R0 = R' ∧ St T cn K N d wi_X12_eatsSign wr_X12_eatsSign I0 R0 I' R0 ∧ (0 ≤ v.toInt ∧ v.toInt ≤ 1) ∧ ((v.toInt = 0 → ((I' a0 9).toInt = (I0 a0 9).toInt ∧ (I' a0 8).toInt = (I0 a0 8).toInt))) ∧ ((v.toInt = 1 → (((I0 a0 9).toInt = 4 ∧ (I' a0 9).toInt ≠ 5) ∧ (I' a0 8).toInt ≥ (I0 a0 8).toInt))) ∧ ((((v.toInt = 1 ∧ 2 ≤ (I' a0 9).toInt) ∧ (I' a0 9).toInt ≤ 4) → (I' a0 8).toInt ≥ (I0 a0 8).toInt + 1)) ∧ True)) := by
  refine ConE.of (by decide +kernel) rfl (Nat.le_of_ble_eq_true rfl) rfl (fun X hX hZ hE => ?_)
  subst hX
  have hS0 : St T cn K N d wi_X12_eatsSign wr_X12_eatsSign I0 R0 I0 R0 := St.rf0 hW0
  obtain ⟨v1, c2⟩ : ∃ v, I0 a0 9 = v := ⟨_, rfl⟩
  have b3 := iv15_9 hS0.1 ta0 c2
  obtain ⟨v4, c5⟩ : ∃ v, I0 a0 8 = v := ⟨_, rfl⟩
  have b6 := iv15_8 hS0.1 ta0 c5
  refine tr_aload_n dX12_eatsSign_0 rfl ?_
  refine q_getI dX12_eatsSign_1 fl12_99 (kR15 hS0.1 ta0) c2 ?_
  refine q_iconst dX12_eatsSign_4 (by decide) ?_
  intro v7 h8
  refine q_icmp_ne 20 dX12_eatsSign_5 (by decide) (fun h9 => ?_) (fun h9 => ?_)
  · skip
    refine q_iconst dX12_eatsSign_20 (by decide) ?_
    intro v10 h11
    refine tr_istore_n dX12_eatsSign_21 (by decide) (by decide) ?_
    refine tr_iload_n dX12_eatsSign_22 rfl ?_
    refine q_if_eq 30 dX12_eatsSign_23 (by decide) (fun h12 => ?_) (fun h12 => ?_)
    · skip
      refine tr_iload_n dX12_eatsSign_30 rfl ?_
      exact tr_zret hZ dX12_eatsSign_31 rfl (ti_b01 (by omega) (by omega)) (by decide) (by decide) ⟨v10, rfl, rfl, rfl, rfl, rfl, hS0, (by omega), (by (try rw [c2]); (try rw [c5]); (try omega)), (by (try rw [c2]); (try rw [c5]); (try omega)), (by (try rw [c2]); (try rw [c5]); (try omega)), trivial⟩
    · skip
      exfalso; omega
  · skip
    refine tr_aload_n dX12_eatsSign_8 rfl ?_
    obtain ⟨v13, c14⟩ : ∃ v, I0 a0 11 = v := ⟨_, rfl⟩
    refine q_getI dX12_eatsSign_9 fl12_111 (kR15 hS0.1 ta0) c14 ?_
    refine tr_iload_n dX12_eatsSign_12 rfl ?_
    refine q_icmp_ne 20 dX12_eatsSign_13 (by decide) (fun h15 => ?_) (fun h15 => ?_)
    · skip
      refine q_iconst dX12_eatsSign_20 (by decide) ?_
      intro v16 h17
      refine tr_istore_n dX12_eatsSign_21 (by decide) (by decide) ?_
      refine tr_iload_n dX12_eatsSign_22 rfl ?_
      refine q_if_eq 30 dX12_eatsSign_23 (by decide) (fun h18 => ?_) (fun h18 => ?_)
      · skip
        refine tr_iload_n dX12_eatsSign_30 rfl ?_
        exact tr_zret hZ dX12_eatsSign_31 rfl (ti_b01 (by omega) (by omega)) (by decide) (by decide) ⟨v16, rfl, rfl, rfl, rfl, rfl, hS0, (by omega), (by (try rw [c2]); (try rw [c5]); (try omega)), (by (try rw [c2]); (try rw [c5]); (try omega)), (by (try rw [c2]); (try rw [c5]); (try omega)), trivial⟩
      · skip
        exfalso; omega
    · skip
      refine q_iconst dX12_eatsSign_16 (by decide) ?_
      intro v19 h20
      refine tr_goto 21 dX12_eatsSign_17 (by decide) ?_
      refine tr_istore_n dX12_eatsSign_21 (by decide) (by decide) ?_
      refine tr_iload_n dX12_eatsSign_22 rfl ?_
      refine q_if_eq 30 dX12_eatsSign_23 (by decide) (fun h21 => ?_) (fun h21 => ?_)
      · skip
        exfalso; omega
      · skip
        refine tr_aload_n dX12_eatsSign_26 rfl ?_
        refine q_callVv hE (M' := mX12_goesOn) (as := []) dX12_eatsSign_27 lk12_142 inX12_goesOn seX12_goesOn myX12_goesOn (by decide) ⟨by decide, by decide⟩ rfl (kR15 hS0.1 ta0) (Nat.le_of_ble_eq_true rfl) rfl rfl (by decide) (by decide) (k_X12_goesOn hS0.1 ta0) ?_
        rintro cn' K' N' I22 R23 L24 ⟨rfl, rfl, rfl, rfl, g25, p27, p28, p29, p30, -⟩
        have hS31 := hS0.tr g25 (by decide +kernel) (by decide +kernel)
        obtain ⟨v32, c33⟩ : ∃ v, I22 a0 9 = v := ⟨_, rfl⟩
        have b34 := iv15_9 hS31.1 ta0 c33
        obtain ⟨v35, c36⟩ : ∃ v, I22 a0 8 = v := ⟨_, rfl⟩
        have b37 := iv15_8 hS31.1 ta0 c36
        have p38 := p27
        rw [c2] at p38
        rw [c33] at p38
        rw [c36] at p38
        rw [c5] at p38
        have p39 := p28
        rw [c2] at p39
        rw [c33] at p39
        have p40 := p29
        rw [c36] at p40
        rw [c5] at p40
        have p41 := p30
        rw [c2] at p41
        rw [c33] at p41
        rw [c36] at p41
        rw [c5] at p41
        refine tr_iload_n dX12_eatsSign_30 rfl ?_
        exact tr_zret hZ dX12_eatsSign_31 rfl (ti_b01 (by omega) (by omega)) (by decide) (by decide) ⟨v19, rfl, rfl, rfl, rfl, rfl, hS31, (by omega), (by (try rw [c33]); (try rw [c2]); (try rw [c36]); (try rw [c5]); (try omega)), (by (try rw [c2]); (try rw [c33]); (try rw [c36]); (try rw [c5]); (try omega)), (by (try rw [c33]); (try rw [c36]); (try rw [c5]); (try omega)), trivial⟩
def wi_X12_readRising : List Nat := [959, 968, 969, 970, 971, 972, 973, 974]
def wr_X12_readRising : List Nat := []
set_option maxHeartbeats 4000000 in
theorem k_X12_readRising {l : Launch} {T : Nat → Nat} {cn : Nat} {K N : Nat → Nat} {I0 : cz_I} {R0 : cz_R} {L0 : cz_L} {d : Int} (hW0 : Wf T cn K N I0 R0 d) {a0 : Nat} (ta0 : T a0 = 15) {a1 : Nat} (ta1 : T a1 = 61) {x2 : Int32} (hx2 : 0 ≤ x2.toInt ∧ x2.toInt ≤ 24) {x3 : Int32} (hx3 : 8 ≤ x3.toInt ∧ x3.toInt ≤ 8) (nn4 : ∃ b, R0 a0 4 = some b) : ConE l mX12_readRising [.ref a0, .ref a1, .int x2, .int x3] cn K N I0 R0 L0 (ca_i (fun v cn' K' N' I' R' L' => cn = cn' ∧ K = K' ∧ N = N' ∧ R0 = R' ∧ St T cn K N d wi_X12_readRising wr_X12_readRising I0 R0 I' R0 ∧ (0 ≤ v.toInt ∧ v.toInt ≤ 8) ∧ (((I0 a0 9).toInt = 5 → (I' a0 9).toInt = 5)) ∧ ((I' a0 8).toInt ≥ (I0 a0 8).toInt) ∧ (((2 ≤ (I' a0 9).toInt ∧ (I' a0 9).toInt ≤ 4) → (I' a0 8).toInt ≥ (I0 a0 8).toInt + 1)) ∧ ((((I0 a0 9).toInt = 5 → (I0 a0 13).toInt ≥ 1) → ((I' a0 9).toInt = 5 → (I' a0 13).toInt ≥ 1))) ∧ True)) := by
  refine ConE.of (by decide +kernel) rfl (Nat.le_of_ble_eq_true rfl) rfl (fun X hX hZ hE => ?_)
  subst hX
  have hS0 : St T cn K N d wi_X12_readRising wr_X12_readRising I0 R0 I0 R0 := St.rf0 hW0
  obtain ⟨a1, d2⟩ := nn4
  have ta1 : T a1 = 14 := hW0.rsN ta0 rfl d2
  obtain ⟨v3, c4⟩ : ∃ v, I0 a0 9 = v := ⟨_, rfl⟩
  have b5 := iv15_9 hS0.1 ta0 c4
  obtain ⟨v6, c7⟩ : ∃ v, I0 a0 8 = v := ⟨_, rfl⟩
  have b8 := iv15_8 hS0.1 ta0 c7
  obtain ⟨v9, c10⟩ : ∃ v, I0 a0 13 = v := ⟨_, rfl⟩
  refine q_iconst dX12_readRising_0 (by decide) ?_
  intro v11 h12
  refine tr_istore dX12_readRising_1 (by decide) (by decide) ?_
  refine q_iconst dX12_readRising_3 (by decide) ?_
  intro v13 h14
  refine tr_istore dX12_readRising_4 (by decide) (by decide) ?_
  refine q_iconst dX12_readRising_6 (by decide) ?_
  intro v15 h16
  refine tr_istore dX12_readRising_7 (by decide) (by decide) ?_
  have lp47 : ∀ (fu : Nat) (ls : Nat → Option Value) (v17 : Int32) (v18 : Int32) (v19 : Int32) (I27 : cz_I) (L28 : cz_L) (v30 : Int32) (v32 : Int32) (v34 : Int32), ls 0 = some (.ref a0) → ls 1 = some (.ref a1) → ls 2 = some (.int x2) → ls 3 = some (.int x3) → ls 4 = some (.int v17) → ls 5 = some (.int v18) → ls 6 = some (.int v19) → St T cn K N d wi_X12_readRising wr_X12_readRising I0 R0 I27 R0 → I27 a0 9 = v30 → I27 a0 8 = v32 → I27 a0 13 = v34 → (v3.toInt = 5 → v30.toInt = 5) → v32.toInt ≥ v6.toInt → (v17.toInt ≥ 1 → ((2 ≤ v30.toInt ∧ v30.toInt ≤ 4) → v32.toInt ≥ v6.toInt + 1)) → ((v3.toInt = 5 → v9.toInt ≥ 1) → (v30.toInt = 5 → v34.toInt ≥ 1)) → (v17.toInt = 0 → v19.toInt = 1) → 0 ≤ v17.toInt → v17.toInt ≤ 8 → 0 ≤ v18.toInt → v18.toInt ≤ 240 → 0 ≤ v19.toInt → v19.toInt ≤ 1 → (-v17.toInt + 9).toNat < fu → Tr X mX12_readRising 9 ls [] cn K N I27 R0 L28 0 0 := by
    intro fu
    induction fu with
    | zero => intros; rename_i hz; exact absurd hz (Nat.not_lt_zero _)
    | succ fu ih47 =>
      intro ls v17 v18 v19 I27 L28 v30 v32 v34 hl20 hl21 hl22 hl23 hl24 hl25 hl26 hS29 c31 c33 c35 g36 g37 g38 g39 g40 g41 g42 g43 g44 g45 g46 hm47
      have b49 := iv15_9 hS29.1 ta0 c31
      have b50 := iv15_8 hS29.1 ta0 c33
      refine tr_iload dX12_readRising_9 hl26 ?_
      refine q_if_eq 92 dX12_readRising_11 (by decide) (fun h51 => ?_) (fun h51 => ?_)
      · skip
        refine tr_iload dX12_readRising_92 hl24 ?_
        exact tr_iret hZ dX12_readRising_94 rfl (by decide) (by decide) ⟨v17, rfl, rfl, rfl, rfl, rfl, hS29, (by omega), (by (try rw [c4]); (try rw [c31]); (try omega)), (by (try rw [c33]); (try rw [c7]); (try omega)), (by (try rw [c31]); (try rw [c33]); (try rw [c7]); (try omega)), (by (try rw [c4]); (try rw [c10]); (try rw [c31]); (try rw [c35]); (try omega)), trivial⟩
      · skip
        refine tr_aload_n dX12_readRising_14 hl20 ?_
        refine q_getI dX12_readRising_15 fl12_99 (kR15 hS29.1 ta0) c31 ?_
        refine q_iconst dX12_readRising_18 (by decide) ?_
        intro v52 h53
        refine q_icmp_eq 92 dX12_readRising_19 (by decide) (fun h54 => ?_) (fun h54 => ?_)
        · skip
          refine tr_iload dX12_readRising_92 hl24 ?_
          exact tr_iret hZ dX12_readRising_94 rfl (by decide) (by decide) ⟨v17, rfl, rfl, rfl, rfl, rfl, hS29, (by omega), (by (try rw [c4]); (try rw [c31]); (try omega)), (by (try rw [c33]); (try rw [c7]); (try omega)), (by (try rw [c31]); (try rw [c33]); (try rw [c7]); (try omega)), (by (try rw [c4]); (try rw [c10]); (try rw [c31]); (try rw [c35]); (try omega)), trivial⟩
        · skip
          refine tr_aload_n dX12_readRising_22 hl20 ?_
          refine tr_iload dX12_readRising_23 hl25 ?_
          refine tr_aload_n dX12_readRising_25 hl20 ?_
          refine tr_getR dX12_readRising_26 fl12_188 (kR15 hS29.1 ta0) d2 ?_
          obtain ⟨v55, c56⟩ : ∃ v, I0 a1 0 = v := ⟨_, rfl⟩
          have b57 := iv14_0 hW0 ta1 c56
          refine q_getI dX12_readRising_29 fl12_192 (kR14 hS29.1 ta1) ((hS29.cell ta1 (by decide +kernel)).trans c56) ?_
          refine q_iconst dX12_readRising_32 (by decide) ?_
          intro v58 h59
          refine q_isubE dX12_readRising_33 (by intros; omega) ?_
          intro v60 h61
          refine q_callVi hE (M' := mX12_bounded) (as := [_, _]) dX12_readRising_34 lk12_153 inX12_bounded seX12_bounded myX12_bounded (by decide) ⟨by decide, by decide⟩ rfl (kR15 hS29.1 ta0) (Nat.le_of_ble_eq_true rfl) rfl rfl (by decide) (by decide) (k_X12_bounded hS29.1 ta0) ?_
          rintro v66 cn' K' N' I62 R63 L64 ⟨rfl, rfl, rfl, rfl, rfl, g65, p67, p68, p69, p70, -⟩
          have hS71 := hS29.tr g65 (by decide +kernel) (by decide +kernel)
          have c72 : I62 a0 8 = v32 := (g65.cell ta0 (by decide +kernel)).trans c33
          obtain ⟨v73, c74⟩ : ∃ v, I62 a0 9 = v := ⟨_, rfl⟩
          have b75 := iv15_9 hS71.1 ta0 c74
          have p76 := p67
          rw [c31] at p76
          rw [c74] at p76
          have p77 := p68
          have p78 := p69
          rw [c74] at p78
          rw [c31] at p78
          obtain ⟨v79, c80⟩ : ∃ v, I62 a0 13 = v := ⟨_, rfl⟩
          have p81 := p70
          rw [c31] at p81
          rw [c35] at p81
          rw [c74] at p81
          rw [c80] at p81
          refine tr_istore dX12_readRising_37 (by decide) (by decide) ?_
          refine tr_iload dX12_readRising_39 hl24 ?_
          refine tr_iload_n dX12_readRising_41 hl23 ?_
          refine q_icmp_ne 50 dX12_readRising_42 (by decide) (fun h82 => ?_) (fun h82 => ?_)
          · skip
            refine tr_aload_n dX12_readRising_50 hl20 ?_
            refine q_callVv hE (M' := mX12_goesOn) (as := []) dX12_readRising_51 lk12_142 inX12_goesOn seX12_goesOn myX12_goesOn (by decide) ⟨by decide, by decide⟩ rfl (kR15 hS71.1 ta0) (Nat.le_of_ble_eq_true rfl) rfl rfl (by decide) (by decide) (k_X12_goesOn hS71.1 ta0) ?_
            rintro cn' K' N' I83 R84 L85 ⟨rfl, rfl, rfl, rfl, g86, p88, p89, p90, p91, -⟩
            have hS92 := hS71.tr g86 (by decide +kernel) (by decide +kernel)
            have c93 : I83 a0 13 = v79 := (g86.cell ta0 (by decide +kernel)).trans c80
            obtain ⟨v94, c95⟩ : ∃ v, I83 a0 9 = v := ⟨_, rfl⟩
            have b96 := iv15_9 hS92.1 ta0 c95
            obtain ⟨v97, c98⟩ : ∃ v, I83 a0 8 = v := ⟨_, rfl⟩
            have b99 := iv15_8 hS92.1 ta0 c98
            have p100 := p88
            rw [c74] at p100
            rw [c95] at p100
            rw [c98] at p100
            rw [c72] at p100
            have p101 := p89
            rw [c74] at p101
            rw [c95] at p101
            have p102 := p90
            rw [c98] at p102
            rw [c72] at p102
            have p103 := p91
            rw [c74] at p103
            rw [c95] at p103
            rw [c98] at p103
            rw [c72] at p103
            refine tr_aload_n dX12_readRising_54 hl20 ?_
            refine q_getI dX12_readRising_55 fl12_99 (kR15 hS92.1 ta0) c95 ?_
            refine q_iconst dX12_readRising_58 (by decide) ?_
            intro v104 h105
            refine q_icmp_ne 64 dX12_readRising_59 (by decide) (fun h106 => ?_) (fun h106 => ?_)
            · skip
              refine tr_aload_n dX12_readRising_64 hl21 ?_
              refine tr_iload_n dX12_readRising_65 hl22 ?_
              refine tr_iload dX12_readRising_66 hl24 ?_
              refine q_iaddE dX12_readRising_68 (by intros; omega) ?_
              intro v107 h108
              refine tr_iload dX12_readRising_69 rfl ?_
              refine q_zast dX12_readRising_71 (kR14 hS92.1 ta1) (ti_in (nR14 hS92.1 ta1) (by omega) (by omega)) hS92 ta1 (by omega) rfl rfl (by rfl) ?_
              intro I109 hS110 f111
              have c113 : I109 a0 13 = v79 := (f111 _ _ (fun q => by have z := ta0; rw [q.1, ta1] at z; exact absurd z (by decide))).trans c93
              have c114 : I109 a0 9 = v94 := (f111 _ _ (fun q => by have z := ta0; rw [q.1, ta1] at z; exact absurd z (by decide))).trans c95
              have c115 : I109 a0 8 = v97 := (f111 _ _ (fun q => by have z := ta0; rw [q.1, ta1] at z; exact absurd z (by decide))).trans c98
              refine q_iincE dX12_readRising_72 hl24 (by decide) (by decide) (by intros; omega) ?_
              intro v116 h117
              refine tr_iload dX12_readRising_75 rfl ?_
              refine q_iconst dX12_readRising_77 (by decide) ?_
              intro v118 h119
              refine q_iaddE dX12_readRising_78 (by intros; omega) ?_
              intro v120 h121
              refine tr_istore dX12_readRising_79 (by decide) (by decide) ?_
              refine tr_aload_n dX12_readRising_81 hl20 ?_
              refine q_bipush dX12_readRising_82 (by decide +kernel) ?_
              intro v122 h123
              refine q_callVi hE (M' := mX12_eatsSign) (as := [_]) dX12_readRising_84 lk12_221 inX12_eatsSign seX12_eatsSign myX12_eatsSign (by decide) ⟨by decide, by decide⟩ rfl (kR15 hS110.1 ta0) (Nat.le_of_ble_eq_true rfl) rfl rfl (by decide) (by decide) (k_X12_eatsSign hS110.1 ta0) ?_
              rintro v128 cn' K' N' I124 R125 L126 ⟨rfl, rfl, rfl, rfl, g127, h129, p130, p131, p132, -⟩
              have hS133 := hS110.tr g127 (by decide +kernel) (by decide +kernel)
              have c134 : I124 a0 13 = v79 := (g127.cell ta0 (by decide +kernel)).trans c113
              obtain ⟨v135, c136⟩ : ∃ v, I124 a0 9 = v := ⟨_, rfl⟩
              have b137 := iv15_9 hS133.1 ta0 c136
              obtain ⟨v138, c139⟩ : ∃ v, I124 a0 8 = v := ⟨_, rfl⟩
              have b140 := iv15_8 hS133.1 ta0 c139
              have p141 := p130
              rw [c136] at p141
              rw [c114] at p141
              rw [c139] at p141
              rw [c115] at p141
              have p142 := p131
              rw [c114] at p142
              rw [c136] at p142
              rw [c139] at p142
              rw [c115] at p142
              have p143 := p132
              rw [c136] at p143
              rw [c139] at p143
              rw [c115] at p143
              refine tr_istore dX12_readRising_87 (by decide) (by decide) ?_
              refine tr_goto 9 dX12_readRising_89 (by decide) ?_
              exact ih47 _ v116 v120 v128 I124 L126 v135 v138 v79 hl20 hl21 hl22 hl23 rfl rfl rfl hS133 c136 c139 c134 (by omega) (by omega) (by omega) (by omega) (by omega) (by omega) (by omega) (by omega) (by omega) (by omega) (by omega) (by omega)
            · skip
              refine q_iconst dX12_readRising_62 (by decide) ?_
              intro v144 h145
              exact tr_iret hZ dX12_readRising_63 rfl (by decide) (by decide) ⟨v144, rfl, rfl, rfl, rfl, rfl, hS92, (by omega), (by (try rw [c4]); (try rw [c95]); (try omega)), (by (try rw [c98]); (try rw [c7]); (try omega)), (by (try rw [c95]); (try rw [c98]); (try rw [c7]); (try omega)), (by (try rw [c4]); (try rw [c10]); (try rw [c95]); (try rw [c93]); (try omega)), trivial⟩
          · skip
            refine tr_aload_n dX12_readRising_45 hl20 ?_
            refine q_iconst dX12_readRising_46 (by decide) ?_
            intro v146 h147
            refine q_callVv hE (M' := mX12_flaw) (as := [_]) dX12_readRising_47 lk12_145 inX12_flaw seX12_flaw myX12_flaw (by decide) ⟨by decide, by decide⟩ rfl (kR15 hS71.1 ta0) (Nat.le_of_ble_eq_true rfl) rfl rfl (by decide) (by decide) (k_X12_flaw hS71.1 ta0 (by omega)) ?_
            rintro cn' K' N' I148 R149 L150 ⟨rfl, rfl, rfl, rfl, rfl, g151, p153, p154, -⟩
            have hS155 := hS71.tr g151 (by decide +kernel) (by decide +kernel)
            have c156 : I148 a0 8 = v32 := (g151.cell ta0 (by decide +kernel)).trans c72
            obtain ⟨v157, c158⟩ : ∃ v, I148 a0 9 = v := ⟨_, rfl⟩
            have b159 := iv15_9 hS155.1 ta0 c158
            have p160 := p153
            rw [c158] at p160
            obtain ⟨v161, c162⟩ : ∃ v, I148 a0 13 = v := ⟨_, rfl⟩
            have p163 := p154
            rw [c74] at p163
            rw [c80] at p163
            rw [c162] at p163
            refine tr_aload_n dX12_readRising_50 hl20 ?_
            refine q_callVv hE (M' := mX12_goesOn) (as := []) dX12_readRising_51 lk12_142 inX12_goesOn seX12_goesOn myX12_goesOn (by decide) ⟨by decide, by decide⟩ rfl (kR15 hS155.1 ta0) (Nat.le_of_ble_eq_true rfl) rfl rfl (by decide) (by decide) (k_X12_goesOn hS155.1 ta0) ?_
            rintro cn' K' N' I164 R165 L166 ⟨rfl, rfl, rfl, rfl, g167, p169, p170, p171, p172, -⟩
            have hS173 := hS155.tr g167 (by decide +kernel) (by decide +kernel)
            have c174 : I164 a0 13 = v161 := (g167.cell ta0 (by decide +kernel)).trans c162
            obtain ⟨v175, c176⟩ : ∃ v, I164 a0 9 = v := ⟨_, rfl⟩
            have b177 := iv15_9 hS173.1 ta0 c176
            obtain ⟨v178, c179⟩ : ∃ v, I164 a0 8 = v := ⟨_, rfl⟩
            have b180 := iv15_8 hS173.1 ta0 c179
            have p181 := p169
            rw [c158] at p181
            rw [c176] at p181
            rw [c179] at p181
            rw [c156] at p181
            have p182 := p170
            rw [c158] at p182
            rw [c176] at p182
            have p183 := p171
            rw [c179] at p183
            rw [c156] at p183
            have p184 := p172
            rw [c158] at p184
            rw [c176] at p184
            rw [c179] at p184
            rw [c156] at p184
            refine tr_aload_n dX12_readRising_54 hl20 ?_
            refine q_getI dX12_readRising_55 fl12_99 (kR15 hS173.1 ta0) c176 ?_
            refine q_iconst dX12_readRising_58 (by decide) ?_
            intro v185 h186
            refine q_icmp_ne 64 dX12_readRising_59 (by decide) (fun h187 => ?_) (fun h187 => ?_)
            · skip
              exfalso; omega
            · skip
              refine q_iconst dX12_readRising_62 (by decide) ?_
              intro v188 h189
              exact tr_iret hZ dX12_readRising_63 rfl (by decide) (by decide) ⟨v188, rfl, rfl, rfl, rfl, rfl, hS173, (by omega), (by (try rw [c4]); (try rw [c176]); (try omega)), (by (try rw [c179]); (try rw [c7]); (try omega)), (by (try rw [c176]); (try rw [c179]); (try rw [c7]); (try omega)), (by (try rw [c4]); (try rw [c10]); (try rw [c176]); (try rw [c174]); (try omega)), trivial⟩
  exact lp47 _ _ v11 v13 v15 I0 L0 v3 v6 v9 rfl rfl rfl rfl rfl rfl rfl hS0 c4 c7 c10 (by omega) (by omega) (by omega) (by omega) (by omega) (by omega) (by omega) (by omega) (by omega) (by omega) (by omega) (Nat.lt_succ_self _)
def wi_X12_readSlice : List Nat := [902, 959, 968, 969, 970, 971, 972, 973, 974, 3903]
def wr_X12_readSlice : List Nat := []
set_option maxHeartbeats 4000000 in
theorem k_X12_readSlice {l : Launch} {T : Nat → Nat} {cn : Nat} {K N : Nat → Nat} {I0 : cz_I} {R0 : cz_R} {L0 : cz_L} {d : Int} (hW0 : Wf T cn K N I0 R0 d) {a0 : Nat} (ta0 : T a0 = 15) (nn4 : ∃ b, R0 a0 4 = some b) : ConE l mX12_readSlice [.ref a0] cn K N I0 R0 L0 (ca_v (fun cn' K' N' I' R' L' => cn = cn' ∧ K = K' ∧ N = N' ∧ R0 = R' ∧ St T cn K N d wi_X12_readSlice wr_X12_readSlice I0 R0 I' R0 ∧ (((I0 a0 9).toInt = 5 → (I' a0 9).toInt = 5)) ∧ ((I' a0 8).toInt ≥ (I0 a0 8).toInt) ∧ (((2 ≤ (I' a0 9).toInt ∧ (I' a0 9).toInt ≤ 4) → (I' a0 8).toInt ≥ (I0 a0 8).toInt + 1)) ∧ ((((I0 a0 9).toInt = 5 → (I0 a0 13).toInt ≥ 1) → ((I' a0 9).toInt = 5 → (I' a0 13).toInt ≥ 1))) ∧ True)) := by
  refine ConE.of (by decide +kernel) rfl (Nat.le_of_ble_eq_true rfl) rfl (fun X hX hZ hE => ?_)
  subst hX
  have hS0 : St T cn K N d wi_X12_readSlice wr_X12_readSlice I0 R0 I0 R0 := St.rf0 hW0
  obtain ⟨a1, d2⟩ := nn4
  have ta1 : T a1 = 14 := hW0.rsN ta0 rfl d2
  obtain ⟨v3, c4⟩ : ∃ v, I0 a0 9 = v := ⟨_, rfl⟩
  have b5 := iv15_9 hS0.1 ta0 c4
  obtain ⟨v6, c7⟩ : ∃ v, I0 a0 8 = v := ⟨_, rfl⟩
  have b8 := iv15_8 hS0.1 ta0 c7
  obtain ⟨v9, c10⟩ : ∃ v, I0 a0 13 = v := ⟨_, rfl⟩
  refine tr_aload_n dX12_readSlice_0 rfl ?_
  refine tr_aload_n dX12_readSlice_1 rfl ?_
  refine tr_getR dX12_readSlice_2 fl12_188 (kR15 hS0.1 ta0) d2 ?_
  obtain ⟨v11, c12⟩ : ∃ v, I0 a1 6 = v := ⟨_, rfl⟩
  have b13 := iv14_6 hS0.1 ta1 c12
  refine q_getI dX12_readSlice_5 fl12_370 (kR14 hS0.1 ta1) c12 ?_
  refine q_iconst dX12_readSlice_8 (by decide) ?_
  intro v14 h15
  refine q_callVv hE (M' := mX12_begins) (as := [_, _]) dX12_readSlice_9 lk12_268 inX12_begins seX12_begins myX12_begins (by decide) ⟨by decide, by decide⟩ rfl (kR15 hS0.1 ta0) (Nat.le_of_ble_eq_true rfl) rfl rfl (by decide) (by decide) (k_X12_begins hS0.1 ta0 ⟨_, d2⟩) ?_
  rintro cn' K' N' I16 R17 L18 ⟨rfl, rfl, rfl, rfl, g19, p21, p22, p23, p24, p25, -⟩
  have hS26 := hS0.tr g19 (by decide +kernel) (by decide +kernel)
  have c27 : I16 a1 6 = v11 := (g19.cell ta1 (by decide +kernel)).trans c12
  obtain ⟨v28, c29⟩ : ∃ v, I16 a0 9 = v := ⟨_, rfl⟩
  have b30 := iv15_9 hS26.1 ta0 c29
  have p31 := p21
  rw [c4] at p31
  rw [c29] at p31
  obtain ⟨v32, c33⟩ : ∃ v, I16 a0 8 = v := ⟨_, rfl⟩
  have b34 := iv15_8 hS26.1 ta0 c33
  have p35 := p22
  rw [c33] at p35
  rw [c7] at p35
  have p36 := p23
  rw [c29] at p36
  rw [c33] at p36
  rw [c7] at p36
  obtain ⟨v37, c38⟩ : ∃ v, I16 a0 13 = v := ⟨_, rfl⟩
  have p39 := p24
  rw [c4] at p39
  rw [c10] at p39
  rw [c29] at p39
  rw [c38] at p39
  have p40 := p25
  rw [c29] at p40
  refine tr_aload_n dX12_readSlice_12 rfl ?_
  refine tr_aload_n dX12_readSlice_13 rfl ?_
  refine tr_getR dX12_readSlice_14 fl12_188 (kR15 hS26.1 ta0) d2 ?_
  obtain ⟨a41, d42, ta41⟩ := rf14_18 hW0 ta1
  refine tr_getR dX12_readSlice_17 fl12_373 (kR14 hS26.1 ta1) d42 ?_
  refine q_bipush dX12_readSlice_20 (by decide +kernel) ?_
  intro v43 h44
  refine tr_aload_n dX12_readSlice_22 rfl ?_
  refine tr_getR dX12_readSlice_23 fl12_188 (kR15 hS26.1 ta0) d2 ?_
  refine q_getI dX12_readSlice_26 fl12_370 (kR14 hS26.1 ta1) c27 ?_
  refine q_imulE (c := 8) dX12_readSlice_29 (by omega) (by omega) ?_
  intro v45 h46
  refine q_bipush dX12_readSlice_30 (by decide +kernel) ?_
  intro v47 h48
  refine q_callVi hE (M' := mX12_readRising) (as := [_, _, _]) dX12_readSlice_32 lk12_308 inX12_readRising seX12_readRising myX12_readRising (by decide) ⟨by decide, by decide⟩ rfl (kR15 hS26.1 ta0) (Nat.le_of_ble_eq_true rfl) rfl rfl (by decide) (by decide) (k_X12_readRising hS26.1 ta0 ta41 (by omega) (by omega) ⟨_, d2⟩) ?_
  rintro v53 cn' K' N' I49 R50 L51 ⟨rfl, rfl, rfl, rfl, g52, h54, p55, p56, p57, p58, -⟩
  have hS59 := hS26.tr g52 (by decide +kernel) (by decide +kernel)
  have c60 : I49 a1 6 = v11 := (g52.cell ta1 (by decide +kernel)).trans c27
  obtain ⟨v61, c62⟩ : ∃ v, I49 a0 9 = v := ⟨_, rfl⟩
  have b63 := iv15_9 hS59.1 ta0 c62
  have p64 := p55
  rw [c29] at p64
  rw [c62] at p64
  obtain ⟨v65, c66⟩ : ∃ v, I49 a0 8 = v := ⟨_, rfl⟩
  have b67 := iv15_8 hS59.1 ta0 c66
  have p68 := p56
  rw [c66] at p68
  rw [c33] at p68
  have p69 := p57
  rw [c62] at p69
  rw [c66] at p69
  rw [c33] at p69
  obtain ⟨v70, c71⟩ : ∃ v, I49 a0 13 = v := ⟨_, rfl⟩
  have p72 := p58
  rw [c29] at p72
  rw [c38] at p72
  rw [c62] at p72
  rw [c71] at p72
  refine tr_istore_n dX12_readSlice_35 (by decide) (by decide) ?_
  refine tr_aload_n dX12_readSlice_36 rfl ?_
  refine q_getI dX12_readSlice_37 fl12_99 (kR15 hS59.1 ta0) c62 ?_
  refine q_iconst dX12_readSlice_40 (by decide) ?_
  intro v73 h74
  refine q_icmp_ne 45 dX12_readSlice_41 (by decide) (fun h75 => ?_) (fun h75 => ?_)
  · skip
    refine tr_aload_n dX12_readSlice_45 rfl ?_
    refine tr_getR dX12_readSlice_46 fl12_188 (kR15 hS59.1 ta0) d2 ?_
    obtain ⟨a76, d77, ta76⟩ := rf14_17 hW0 ta1
    refine tr_getR dX12_readSlice_49 fl12_375 (kR14 hS59.1 ta1) d77 ?_
    refine tr_aload_n dX12_readSlice_52 rfl ?_
    refine tr_getR dX12_readSlice_53 fl12_188 (kR15 hS59.1 ta0) d2 ?_
    refine q_getI dX12_readSlice_56 fl12_370 (kR14 hS59.1 ta1) c60 ?_
    refine tr_iload_n dX12_readSlice_59 rfl ?_
    refine q_iast dX12_readSlice_60 (kR60 hS59.1 ta76) (ti_in (nR60 hS59.1 ta76) (by omega) (by omega)) hS59 ta76 (by show (0 : Int) ≤ v53.toInt ∧ v53.toInt ≤ (8 : Int); omega) rfl (by rfl) ?_
    intro I78 hS79 e81 f80
    have c82 : I78 a1 6 = v11 := (f80 _ _ (fun q => by have z := ta1; rw [q.1, ta76] at z; exact absurd z (by decide))).trans c60
    have c83 : I78 a0 9 = v61 := (f80 _ _ (fun q => by have z := ta0; rw [q.1, ta76] at z; exact absurd z (by decide))).trans c62
    have c84 : I78 a0 8 = v65 := (f80 _ _ (fun q => by have z := ta0; rw [q.1, ta76] at z; exact absurd z (by decide))).trans c66
    have c85 : I78 a0 13 = v70 := (f80 _ _ (fun q => by have z := ta0; rw [q.1, ta76] at z; exact absurd z (by decide))).trans c71
    refine tr_aload_n dX12_readSlice_61 rfl ?_
    refine tr_getR dX12_readSlice_62 fl12_188 (kR15 hS79.1 ta0) d2 ?_
    refine tr_dup dX12_readSlice_65 rfl ?_
    refine q_getI dX12_readSlice_66 fl12_370 (kR14 hS79.1 ta1) c82 ?_
    refine q_iconst dX12_readSlice_69 (by decide) ?_
    intro v86 h87
    refine q_iaddE dX12_readSlice_70 (by intros; omega) ?_
    intro v88 h89
    refine q_putI dX12_readSlice_71 fl12_370 (kR14 hS79.1 ta1) (Or.inl rfl) hS79 ta1 (by show (0 : Int) ≤ v88.toInt ∧ v88.toInt ≤ (4 : Int); omega) rfl (by decide +kernel) ?_
    intro I90 hS91 e92 f93
    have c94 : I90 a0 9 = v61 := (f93 _ _ (fun q => absurd q.2 (by decide))).trans c83
    have c95 : I90 a0 8 = v65 := (f93 _ _ (fun q => absurd q.2 (by decide))).trans c84
    have c96 : I90 a0 13 = v70 := (f93 _ _ (fun q => absurd q.2 (by decide))).trans c85
    exact tr_vret hZ dX12_readSlice_74 rfl (by decide) (by decide) ⟨rfl, rfl, rfl, rfl, rfl, hS91, (by (try rw [c4]); (try rw [c94]); (try omega)), (by (try rw [c95]); (try rw [c7]); (try omega)), (by (try rw [c94]); (try rw [c95]); (try rw [c7]); (try omega)), (by (try rw [c4]); (try rw [c10]); (try rw [c94]); (try rw [c96]); (try omega)), trivial⟩
  · skip
    exact tr_vret hZ dX12_readSlice_44 rfl (by decide) (by decide) ⟨rfl, rfl, rfl, rfl, rfl, hS59, (by (try rw [c4]); (try rw [c62]); (try omega)), (by (try rw [c66]); (try rw [c7]); (try omega)), (by (try rw [c62]); (try rw [c66]); (try rw [c7]); (try omega)), (by (try rw [c4]); (try rw [c10]); (try rw [c62]); (try rw [c71]); (try omega)), trivial⟩
set_option maxHeartbeats 4000000 in
theorem k_X12_isName {l : Launch} {T : Nat → Nat} {cn : Nat} {K N : Nat → Nat} {I0 : cz_I} {R0 : cz_R} {L0 : cz_L} {d : Int} (hW0 : Wf T cn K N I0 R0 d) {a0 : Nat} (ta0 : T a0 = 15) : ConE l mX12_isName [.ref a0] cn K N I0 R0 L0 (ca_i (fun v cn' K' N' I' R' L' => cn = cn' ∧ K = K' ∧ N = N' ∧ I0 = I' ∧ R0 = R' ∧ L0 = L' ∧ (0 ≤ v.toInt ∧ v.toInt ≤ 1) ∧ True)) := by
  refine ConE.of (by decide +kernel) rfl (Nat.le_of_ble_eq_true rfl) rfl (fun X hX hZ hE => ?_)
  subst hX
  refine tr_aload_n dX12_isName_0 rfl ?_
  obtain ⟨v1, c2⟩ : ∃ v, I0 a0 9 = v := ⟨_, rfl⟩
  have b3 := iv15_9 hW0 ta0 c2
  refine q_getI dX12_isName_1 fl12_99 (kR15 hW0 ta0) c2 ?_
  refine q_iconst dX12_isName_4 (by decide) ?_
  intro v4 h5
  refine q_icmp_ne 62 dX12_isName_5 (by decide) (fun h6 => ?_) (fun h6 => ?_)
  · skip
    refine q_iconst dX12_isName_62 (by decide) ?_
    intro v7 h8
    exact tr_zret hZ dX12_isName_63 rfl (ti_b01 (by omega) (by omega)) (by decide) (by decide) ⟨v7, rfl, rfl, rfl, rfl, rfl, rfl, rfl, (by omega), trivial⟩
  · skip
    refine tr_aload_n dX12_isName_8 rfl ?_
    refine tr_ldcS dX12_isName_9 ld12_164 ?_
    refine q_callVi hE (M' := mX12_isWord) (as := [_]) dX12_isName_11 lk12_138 inX12_isWord seX12_isWord myX12_isWord (by decide) ⟨by decide, by decide⟩ rfl (kR15 hW0 ta0) (Nat.le_of_ble_eq_true rfl) rfl rfl (by decide) (by decide) (k_X12_isWord hW0 ta0 (by decide)) ?_
    rintro v13 cn' K' N' I9 R10 L11 ⟨rfl, rfl, rfl, rfl, rfl, rfl, h14, p15, -⟩
    have p16 := p15
    rw [c2] at p16
    refine q_if_ne 62 dX12_isName_14 (by decide) (fun h17 => ?_) (fun h17 => ?_)
    · skip
      refine q_iconst dX12_isName_62 (by decide) ?_
      intro v18 h19
      exact tr_zret hZ dX12_isName_63 rfl (ti_b01 (by omega) (by omega)) (by decide) (by decide) ⟨v18, rfl, rfl, rfl, rfl, rfl, rfl, rfl, (by omega), trivial⟩
    · skip
      refine tr_aload_n dX12_isName_17 rfl ?_
      refine tr_ldcS dX12_isName_18 ld12_166 ?_
      refine q_callVi hE (M' := mX12_isWord) (as := [_]) dX12_isName_20 lk12_138 inX12_isWord seX12_isWord myX12_isWord (by decide) ⟨by decide, by decide⟩ rfl (kR15 hW0 ta0) (Nat.le_of_ble_eq_true rfl) rfl rfl (by decide) (by decide) (k_X12_isWord hW0 ta0 (by decide)) ?_
      rintro v24 cn' K' N' I20 R21 L22 ⟨rfl, rfl, rfl, rfl, rfl, rfl, h25, p26, -⟩
      have p27 := p26
      rw [c2] at p27
      refine q_if_ne 62 dX12_isName_23 (by decide) (fun h28 => ?_) (fun h28 => ?_)
      · skip
        refine q_iconst dX12_isName_62 (by decide) ?_
        intro v29 h30
        exact tr_zret hZ dX12_isName_63 rfl (ti_b01 (by omega) (by omega)) (by decide) (by decide) ⟨v29, rfl, rfl, rfl, rfl, rfl, rfl, rfl, (by omega), trivial⟩
      · skip
        refine tr_aload_n dX12_isName_26 rfl ?_
        refine tr_ldcS dX12_isName_27 ld12_168 ?_
        refine q_callVi hE (M' := mX12_isWord) (as := [_]) dX12_isName_29 lk12_138 inX12_isWord seX12_isWord myX12_isWord (by decide) ⟨by decide, by decide⟩ rfl (kR15 hW0 ta0) (Nat.le_of_ble_eq_true rfl) rfl rfl (by decide) (by decide) (k_X12_isWord hW0 ta0 (by decide)) ?_
        rintro v35 cn' K' N' I31 R32 L33 ⟨rfl, rfl, rfl, rfl, rfl, rfl, h36, p37, -⟩
        have p38 := p37
        rw [c2] at p38
        refine q_if_ne 62 dX12_isName_32 (by decide) (fun h39 => ?_) (fun h39 => ?_)
        · skip
          refine q_iconst dX12_isName_62 (by decide) ?_
          intro v40 h41
          exact tr_zret hZ dX12_isName_63 rfl (ti_b01 (by omega) (by omega)) (by decide) (by decide) ⟨v40, rfl, rfl, rfl, rfl, rfl, rfl, rfl, (by omega), trivial⟩
        · skip
          refine tr_aload_n dX12_isName_35 rfl ?_
          refine tr_ldcS dX12_isName_36 ld12_170 ?_
          refine q_callVi hE (M' := mX12_isWord) (as := [_]) dX12_isName_38 lk12_138 inX12_isWord seX12_isWord myX12_isWord (by decide) ⟨by decide, by decide⟩ rfl (kR15 hW0 ta0) (Nat.le_of_ble_eq_true rfl) rfl rfl (by decide) (by decide) (k_X12_isWord hW0 ta0 (by decide)) ?_
          rintro v46 cn' K' N' I42 R43 L44 ⟨rfl, rfl, rfl, rfl, rfl, rfl, h47, p48, -⟩
          have p49 := p48
          rw [c2] at p49
          refine q_if_ne 62 dX12_isName_41 (by decide) (fun h50 => ?_) (fun h50 => ?_)
          · skip
            refine q_iconst dX12_isName_62 (by decide) ?_
            intro v51 h52
            exact tr_zret hZ dX12_isName_63 rfl (ti_b01 (by omega) (by omega)) (by decide) (by decide) ⟨v51, rfl, rfl, rfl, rfl, rfl, rfl, rfl, (by omega), trivial⟩
          · skip
            refine tr_aload_n dX12_isName_44 rfl ?_
            refine tr_ldcS dX12_isName_45 ld12_172 ?_
            refine q_callVi hE (M' := mX12_isWord) (as := [_]) dX12_isName_47 lk12_138 inX12_isWord seX12_isWord myX12_isWord (by decide) ⟨by decide, by decide⟩ rfl (kR15 hW0 ta0) (Nat.le_of_ble_eq_true rfl) rfl rfl (by decide) (by decide) (k_X12_isWord hW0 ta0 (by decide)) ?_
            rintro v57 cn' K' N' I53 R54 L55 ⟨rfl, rfl, rfl, rfl, rfl, rfl, h58, p59, -⟩
            have p60 := p59
            rw [c2] at p60
            refine q_if_ne 62 dX12_isName_50 (by decide) (fun h61 => ?_) (fun h61 => ?_)
            · skip
              refine q_iconst dX12_isName_62 (by decide) ?_
              intro v62 h63
              exact tr_zret hZ dX12_isName_63 rfl (ti_b01 (by omega) (by omega)) (by decide) (by decide) ⟨v62, rfl, rfl, rfl, rfl, rfl, rfl, rfl, (by omega), trivial⟩
            · skip
              refine tr_aload_n dX12_isName_53 rfl ?_
              refine tr_ldcS dX12_isName_54 ld12_174 ?_
              refine q_callVi hE (M' := mX12_isWord) (as := [_]) dX12_isName_56 lk12_138 inX12_isWord seX12_isWord myX12_isWord (by decide) ⟨by decide, by decide⟩ rfl (kR15 hW0 ta0) (Nat.le_of_ble_eq_true rfl) rfl rfl (by decide) (by decide) (k_X12_isWord hW0 ta0 (by decide)) ?_
              rintro v68 cn' K' N' I64 R65 L66 ⟨rfl, rfl, rfl, rfl, rfl, rfl, h69, p70, -⟩
              have p71 := p70
              rw [c2] at p71
              refine q_if_eq 64 dX12_isName_59 (by decide) (fun h72 => ?_) (fun h72 => ?_)
              · skip
                refine tr_aload_n dX12_isName_64 rfl ?_
                refine tr_ldcS dX12_isName_65 ld12_176 ?_
                refine q_callVi hE (M' := mX12_isWord) (as := [_]) dX12_isName_67 lk12_138 inX12_isWord seX12_isWord myX12_isWord (by decide) ⟨by decide, by decide⟩ rfl (kR15 hW0 ta0) (Nat.le_of_ble_eq_true rfl) rfl rfl (by decide) (by decide) (k_X12_isWord hW0 ta0 (by decide)) ?_
                rintro v77 cn' K' N' I73 R74 L75 ⟨rfl, rfl, rfl, rfl, rfl, rfl, h78, p79, -⟩
                have p80 := p79
                rw [c2] at p80
                refine q_if_ne 122 dX12_isName_70 (by decide) (fun h81 => ?_) (fun h81 => ?_)
                · skip
                  refine q_iconst dX12_isName_122 (by decide) ?_
                  intro v82 h83
                  exact tr_zret hZ dX12_isName_123 rfl (ti_b01 (by omega) (by omega)) (by decide) (by decide) ⟨v82, rfl, rfl, rfl, rfl, rfl, rfl, rfl, (by omega), trivial⟩
                · skip
                  refine tr_aload_n dX12_isName_73 rfl ?_
                  refine tr_ldcS dX12_isName_74 ld12_178 ?_
                  refine q_callVi hE (M' := mX12_isWord) (as := [_]) dX12_isName_76 lk12_138 inX12_isWord seX12_isWord myX12_isWord (by decide) ⟨by decide, by decide⟩ rfl (kR15 hW0 ta0) (Nat.le_of_ble_eq_true rfl) rfl rfl (by decide) (by decide) (k_X12_isWord hW0 ta0 (by decide)) ?_
                  rintro v88 cn' K' N' I84 R85 L86 ⟨rfl, rfl, rfl, rfl, rfl, rfl, h89, p90, -⟩
                  have p91 := p90
                  rw [c2] at p91
                  refine q_if_ne 122 dX12_isName_79 (by decide) (fun h92 => ?_) (fun h92 => ?_)
                  · skip
                    refine q_iconst dX12_isName_122 (by decide) ?_
                    intro v93 h94
                    exact tr_zret hZ dX12_isName_123 rfl (ti_b01 (by omega) (by omega)) (by decide) (by decide) ⟨v93, rfl, rfl, rfl, rfl, rfl, rfl, rfl, (by omega), trivial⟩
                  · skip
                    refine tr_aload_n dX12_isName_82 rfl ?_
                    refine tr_ldcS dX12_isName_83 ld12_180 ?_
                    refine q_callVi hE (M' := mX12_isWord) (as := [_]) dX12_isName_85 lk12_138 inX12_isWord seX12_isWord myX12_isWord (by decide) ⟨by decide, by decide⟩ rfl (kR15 hW0 ta0) (Nat.le_of_ble_eq_true rfl) rfl rfl (by decide) (by decide) (k_X12_isWord hW0 ta0 (by decide)) ?_
                    rintro v99 cn' K' N' I95 R96 L97 ⟨rfl, rfl, rfl, rfl, rfl, rfl, h100, p101, -⟩
                    have p102 := p101
                    rw [c2] at p102
                    refine q_if_ne 122 dX12_isName_88 (by decide) (fun h103 => ?_) (fun h103 => ?_)
                    · skip
                      refine q_iconst dX12_isName_122 (by decide) ?_
                      intro v104 h105
                      exact tr_zret hZ dX12_isName_123 rfl (ti_b01 (by omega) (by omega)) (by decide) (by decide) ⟨v104, rfl, rfl, rfl, rfl, rfl, rfl, rfl, (by omega), trivial⟩
                    · skip
                      refine tr_aload_n dX12_isName_91 rfl ?_
                      refine tr_ldcS dX12_isName_92 ld12_182 ?_
                      refine q_callVi hE (M' := mX12_isWord) (as := [_]) dX12_isName_94 lk12_138 inX12_isWord seX12_isWord myX12_isWord (by decide) ⟨by decide, by decide⟩ rfl (kR15 hW0 ta0) (Nat.le_of_ble_eq_true rfl) rfl rfl (by decide) (by decide) (k_X12_isWord hW0 ta0 (by decide)) ?_
                      rintro v110 cn' K' N' I106 R107 L108 ⟨rfl, rfl, rfl, rfl, rfl, rfl, h111, p112, -⟩
                      have p113 := p112
                      rw [c2] at p113
                      refine q_if_ne 122 dX12_isName_97 (by decide) (fun h114 => ?_) (fun h114 => ?_)
                      · skip
                        refine q_iconst dX12_isName_122 (by decide) ?_
                        intro v115 h116
                        exact tr_zret hZ dX12_isName_123 rfl (ti_b01 (by omega) (by omega)) (by decide) (by decide) ⟨v115, rfl, rfl, rfl, rfl, rfl, rfl, rfl, (by omega), trivial⟩
                      · skip
                        refine tr_aload_n dX12_isName_100 rfl ?_
                        refine tr_ldcS dX12_isName_101 ld12_184 ?_
                        refine q_callVi hE (M' := mX12_isWord) (as := [_]) dX12_isName_103 lk12_138 inX12_isWord seX12_isWord myX12_isWord (by decide) ⟨by decide, by decide⟩ rfl (kR15 hW0 ta0) (Nat.le_of_ble_eq_true rfl) rfl rfl (by decide) (by decide) (k_X12_isWord hW0 ta0 (by decide)) ?_
                        rintro v121 cn' K' N' I117 R118 L119 ⟨rfl, rfl, rfl, rfl, rfl, rfl, h122, p123, -⟩
                        have p124 := p123
                        rw [c2] at p124
                        refine q_if_ne 122 dX12_isName_106 (by decide) (fun h125 => ?_) (fun h125 => ?_)
                        · skip
                          refine q_iconst dX12_isName_122 (by decide) ?_
                          intro v126 h127
                          exact tr_zret hZ dX12_isName_123 rfl (ti_b01 (by omega) (by omega)) (by decide) (by decide) ⟨v126, rfl, rfl, rfl, rfl, rfl, rfl, rfl, (by omega), trivial⟩
                        · skip
                          refine tr_aload_n dX12_isName_109 rfl ?_
                          refine tr_ldcS dX12_isName_110 ld12_186 ?_
                          refine q_callVi hE (M' := mX12_isWord) (as := [_]) dX12_isName_112 lk12_138 inX12_isWord seX12_isWord myX12_isWord (by decide) ⟨by decide, by decide⟩ rfl (kR15 hW0 ta0) (Nat.le_of_ble_eq_true rfl) rfl rfl (by decide) (by decide) (k_X12_isWord hW0 ta0 (by decide)) ?_
                          rintro v132 cn' K' N' I128 R129 L130 ⟨rfl, rfl, rfl, rfl, rfl, rfl, h133, p134, -⟩
                          have p135 := p134
                          rw [c2] at p135
                          refine q_if_ne 122 dX12_isName_115 (by decide) (fun h136 => ?_) (fun h136 => ?_)
                          · skip
                            refine q_iconst dX12_isName_122 (by decide) ?_
                            intro v137 h138
                            exact tr_zret hZ dX12_isName_123 rfl (ti_b01 (by omega) (by omega)) (by decide) (by decide) ⟨v137, rfl, rfl, rfl, rfl, rfl, rfl, rfl, (by omega), trivial⟩
                          · skip
                            refine q_iconst dX12_isName_118 (by decide) ?_
                            intro v139 h140
                            refine tr_goto 123 dX12_isName_119 (by decide) ?_
                            exact tr_zret hZ dX12_isName_123 rfl (ti_b01 (by omega) (by omega)) (by decide) (by decide) ⟨v139, rfl, rfl, rfl, rfl, rfl, rfl, rfl, (by omega), trivial⟩
              · skip
                refine q_iconst dX12_isName_62 (by decide) ?_
                intro v141 h142
                exact tr_zret hZ dX12_isName_63 rfl (ti_b01 (by omega) (by omega)) (by decide) (by decide) ⟨v141, rfl, rfl, rfl, rfl, rfl, rfl, rfl, (by omega), trivial⟩
set_option maxHeartbeats 4000000 in
theorem k_X11_find {l : Launch} {T : Nat → Nat} {cn : Nat} {K N : Nat → Nat} {I0 : cz_I} {R0 : cz_R} {L0 : cz_L} {d : Int} (hW0 : Wf T cn K N I0 R0 d) {a0 : Nat} (ta0 : T a0 = 14) {y1 : Int64} : ConE l mX11_find [.ref a0, .long y1] cn K N I0 R0 L0 (ca_i (fun v cn' K' N' I' R' L' => cn = cn' ∧ K = K' ∧ N = N' ∧ I0 = I' ∧ R0 = R' ∧ L0 = L' ∧ ((-1) ≤ v.toInt ∧ v.toInt ≤ 12) ∧ True)) := by
  refine ConE.of (by decide +kernel) rfl (Nat.le_of_ble_eq_true rfl) rfl (fun X hX hZ hE => ?_)
  subst hX
  refine q_iconst dX11_find_0 (by decide) ?_
  intro v1 h2
  refine tr_istore_n dX11_find_1 (by decide) (by decide) ?_
  have lp8 : ∀ (fu : Nat) (ls : Nat → Option Value) (v3 : Int32), ls 0 = some (.ref a0) → ls 1 = some (.long y1) → ls 3 = some (.int v3) → 0 ≤ v3.toInt → (-v3.toInt + 2147483647).toNat < fu → Tr X mX11_find 2 ls [] cn K N I0 R0 L0 0 0 := by
    intro fu
    induction fu with
    | zero => intros; rename_i hz; exact absurd hz (Nat.not_lt_zero _)
    | succ fu ih8 =>
      intro ls v3 hl4 hl5 hl6 g7 hm8
      refine tr_iload_n dX11_find_2 hl6 ?_
      refine tr_aload_n dX11_find_3 hl4 ?_
      obtain ⟨v10, c11⟩ : ∃ v, I0 a0 7 = v := ⟨_, rfl⟩
      have b12 := iv14_7 hW0 ta0 c11
      refine q_getI dX11_find_4 fl11_83 (kR14 hW0 ta0) c11 ?_
      refine q_icmp_ge 29 dX11_find_7 (by decide) (fun h13 => ?_) (fun h13 => ?_)
      · skip
        refine q_iconst dX11_find_29 (by decide) ?_
        intro v14 h15
        exact tr_iret hZ dX11_find_30 rfl (by decide) (by decide) ⟨v14, rfl, rfl, rfl, rfl, rfl, rfl, rfl, (by omega), trivial⟩
      · skip
        refine tr_aload_n dX11_find_10 hl4 ?_
        obtain ⟨a16, d17, ta16⟩ := rf14_30 hW0 ta0
        refine tr_getR dX11_find_11 fl11_73 (kR14 hW0 ta0) d17 ?_
        refine tr_iload_n dX11_find_14 hl6 ?_
        refine q_lald dX11_find_15 (kR73 hW0 ta16) (ti_in (nR73 hW0 ta16) (by omega) (by omega)) ?_
        intro y18
        refine tr_lload_n dX11_find_16 hl5 ?_
        refine q_lcmp dX11_find_17 ?_
        intro v19
        refine q_if_ne 23 dX11_find_18 (by decide) (fun h20 => ?_) (fun h20 => ?_)
        · skip
          refine q_iincE dX11_find_23 hl6 (by decide) (by decide) (by intros; omega) ?_
          intro v21 h22
          refine tr_goto 2 dX11_find_26 (by decide) ?_
          exact ih8 _ v21 hl4 hl5 rfl (by omega) (by omega)
        · skip
          refine tr_iload_n dX11_find_21 hl6 ?_
          exact tr_iret hZ dX11_find_22 rfl (by decide) (by decide) ⟨v3, rfl, rfl, rfl, rfl, rfl, rfl, rfl, (by omega), trivial⟩
  exact lp8 _ _ v1 rfl rfl rfl (by omega) (Nat.lt_succ_self _)
def wi_X12_needs : List Nat := [968, 969, 970, 971, 972, 973, 974]
def wr_X12_needs : List Nat := []
set_option maxHeartbeats 4000000 in
theorem k_X12_needs {l : Launch} {T : Nat → Nat} {cn : Nat} {K N : Nat → Nat} {I0 : cz_I} {R0 : cz_R} {L0 : cz_L} {d : Int} (hW0 : Wf T cn K N I0 R0 d) {a0 : Nat} (ta0 : T a0 = 15) {u1 : UInt32} (hu1 : u1.toNat < cz_NS) : ConE l mX12_needs [.ref a0, .float u1] cn K N I0 R0 L0 (ca_v (fun cn' K' N' I' R' L' => cn = cn' ∧ K = K' ∧ N = N' ∧ R0 = R' ∧ St T cn K N d wi_X12_needs wr_X12_needs I0 R0 I' R0 ∧ (((I0 a0 9).toInt = 5 → (I' a0 9).toInt = 5)) ∧ ((I' a0 8).toInt ≥ (I0 a0 8).toInt) ∧ (((2 ≤ (I' a0 9).toInt ∧ (I' a0 9).toInt ≤ 4) → (I' a0 8).toInt ≥ (I0 a0 8).toInt + 1)) ∧ ((((I0 a0 9).toInt = 5 → (I0 a0 13).toInt ≥ 1) → ((I' a0 9).toInt = 5 → (I' a0 13).toInt ≥ 1))) ∧ True)) := by
  refine ConE.of (by decide +kernel) rfl (Nat.le_of_ble_eq_true rfl) rfl (fun X hX hZ hE => ?_)
  subst hX
  have hS0 : St T cn K N d wi_X12_needs wr_X12_needs I0 R0 I0 R0 := St.rf0 hW0
  obtain ⟨v1, c2⟩ : ∃ v, I0 a0 9 = v := ⟨_, rfl⟩
  have b3 := iv15_9 hS0.1 ta0 c2
  obtain ⟨v4, c5⟩ : ∃ v, I0 a0 8 = v := ⟨_, rfl⟩
  have b6 := iv15_8 hS0.1 ta0 c5
  obtain ⟨v7, c8⟩ : ∃ v, I0 a0 13 = v := ⟨_, rfl⟩
  refine tr_aload_n dX12_needs_0 rfl ?_
  refine tr_aload_nS dX12_needs_1 rfl ?_
  refine q_callVi hE (M' := mX12_isWord) (as := [_]) dX12_needs_2 lk12_138 inX12_isWord seX12_isWord myX12_isWord (by decide) ⟨by decide, by decide⟩ rfl (kR15 hS0.1 ta0) (Nat.le_of_ble_eq_true rfl) rfl rfl (by decide) (by decide) (k_X12_isWord hS0.1 ta0 hu1) ?_
  rintro v13 cn' K' N' I9 R10 L11 ⟨rfl, rfl, rfl, rfl, rfl, rfl, h14, p15, -⟩
  have p16 := p15
  rw [c2] at p16
  refine q_if_ne 13 dX12_needs_5 (by decide) (fun h17 => ?_) (fun h17 => ?_)
  · skip
    refine tr_aload_n dX12_needs_13 rfl ?_
    refine q_callVv hE (M' := mX12_goesOn) (as := []) dX12_needs_14 lk12_142 inX12_goesOn seX12_goesOn myX12_goesOn (by decide) ⟨by decide, by decide⟩ rfl (kR15 hS0.1 ta0) (Nat.le_of_ble_eq_true rfl) rfl rfl (by decide) (by decide) (k_X12_goesOn hS0.1 ta0) ?_
    rintro cn' K' N' I18 R19 L20 ⟨rfl, rfl, rfl, rfl, g21, p23, p24, p25, p26, -⟩
    have hS27 := hS0.tr g21 (by decide +kernel) (by decide +kernel)
    have c28 : I18 a0 13 = v7 := (g21.cell ta0 (by decide +kernel)).trans c8
    obtain ⟨v29, c30⟩ : ∃ v, I18 a0 9 = v := ⟨_, rfl⟩
    have b31 := iv15_9 hS27.1 ta0 c30
    obtain ⟨v32, c33⟩ : ∃ v, I18 a0 8 = v := ⟨_, rfl⟩
    have b34 := iv15_8 hS27.1 ta0 c33
    have p35 := p23
    rw [c2] at p35
    rw [c30] at p35
    rw [c33] at p35
    rw [c5] at p35
    have p36 := p24
    rw [c2] at p36
    rw [c30] at p36
    have p37 := p25
    rw [c33] at p37
    rw [c5] at p37
    have p38 := p26
    rw [c2] at p38
    rw [c30] at p38
    rw [c33] at p38
    rw [c5] at p38
    exact tr_vret hZ dX12_needs_17 rfl (by decide) (by decide) ⟨rfl, rfl, rfl, rfl, rfl, hS27, (by (try rw [c2]); (try rw [c30]); (try omega)), (by (try rw [c33]); (try rw [c5]); (try omega)), (by (try rw [c30]); (try rw [c33]); (try rw [c5]); (try omega)), (by (try rw [c2]); (try rw [c8]); (try rw [c30]); (try rw [c28]); (try omega)), trivial⟩
  · skip
    refine tr_aload_n dX12_needs_8 rfl ?_
    refine q_iconst dX12_needs_9 (by decide) ?_
    intro v39 h40
    refine q_callVv hE (M' := mX12_flaw) (as := [_]) dX12_needs_10 lk12_145 inX12_flaw seX12_flaw myX12_flaw (by decide) ⟨by decide, by decide⟩ rfl (kR15 hS0.1 ta0) (Nat.le_of_ble_eq_true rfl) rfl rfl (by decide) (by decide) (k_X12_flaw hS0.1 ta0 (by omega)) ?_
    rintro cn' K' N' I41 R42 L43 ⟨rfl, rfl, rfl, rfl, rfl, g44, p46, p47, -⟩
    have hS48 := hS0.tr g44 (by decide +kernel) (by decide +kernel)
    have c49 : I41 a0 8 = v4 := (g44.cell ta0 (by decide +kernel)).trans c5
    obtain ⟨v50, c51⟩ : ∃ v, I41 a0 9 = v := ⟨_, rfl⟩
    have b52 := iv15_9 hS48.1 ta0 c51
    have p53 := p46
    rw [c51] at p53
    obtain ⟨v54, c55⟩ : ∃ v, I41 a0 13 = v := ⟨_, rfl⟩
    have p56 := p47
    rw [c2] at p56
    rw [c8] at p56
    rw [c55] at p56
    refine tr_aload_n dX12_needs_13 rfl ?_
    refine q_callVv hE (M' := mX12_goesOn) (as := []) dX12_needs_14 lk12_142 inX12_goesOn seX12_goesOn myX12_goesOn (by decide) ⟨by decide, by decide⟩ rfl (kR15 hS48.1 ta0) (Nat.le_of_ble_eq_true rfl) rfl rfl (by decide) (by decide) (k_X12_goesOn hS48.1 ta0) ?_
    rintro cn' K' N' I57 R58 L59 ⟨rfl, rfl, rfl, rfl, g60, p62, p63, p64, p65, -⟩
    have hS66 := hS48.tr g60 (by decide +kernel) (by decide +kernel)
    have c67 : I57 a0 13 = v54 := (g60.cell ta0 (by decide +kernel)).trans c55
    obtain ⟨v68, c69⟩ : ∃ v, I57 a0 9 = v := ⟨_, rfl⟩
    have b70 := iv15_9 hS66.1 ta0 c69
    obtain ⟨v71, c72⟩ : ∃ v, I57 a0 8 = v := ⟨_, rfl⟩
    have b73 := iv15_8 hS66.1 ta0 c72
    have p74 := p62
    rw [c51] at p74
    rw [c69] at p74
    rw [c72] at p74
    rw [c49] at p74
    have p75 := p63
    rw [c51] at p75
    rw [c69] at p75
    have p76 := p64
    rw [c72] at p76
    rw [c49] at p76
    have p77 := p65
    rw [c51] at p77
    rw [c69] at p77
    rw [c72] at p77
    rw [c49] at p77
    exact tr_vret hZ dX12_needs_17 rfl (by decide) (by decide) ⟨rfl, rfl, rfl, rfl, rfl, hS66, (by (try rw [c2]); (try rw [c69]); (try omega)), (by (try rw [c72]); (try rw [c5]); (try omega)), (by (try rw [c69]); (try rw [c72]); (try rw [c5]); (try omega)), (by (try rw [c2]); (try rw [c8]); (try rw [c69]); (try rw [c67]); (try omega)), trivial⟩
def wi_X12_readWhole : List Nat := [968, 969, 970, 971, 972, 973, 974]
def wr_X12_readWhole : List Nat := []
set_option maxHeartbeats 4000000 in
theorem k_X12_readWhole {l : Launch} {T : Nat → Nat} {cn : Nat} {K N : Nat → Nat} {I0 : cz_I} {R0 : cz_R} {L0 : cz_L} {d : Int} (hW0 : Wf T cn K N I0 R0 d) {a0 : Nat} (ta0 : T a0 = 15) {x1 : Int32} {x2 : Int32} : ConE l mX12_readWhole [.ref a0, .int x1, .int x2] cn K N I0 R0 L0 (ca_i (fun v cn' K' N' I' R' L' => cn = cn' ∧ K = K' ∧ N = N' ∧ R0 = R' ∧ St T cn K N d wi_X12_readWhole wr_X12_readWhole I0 R0 I' R0 ∧ (((I0 a0 9).toInt = 5 → (I' a0 9).toInt = 5)) ∧ ((I' a0 8).toInt ≥ (I0 a0 8).toInt) ∧ (((2 ≤ (I' a0 9).toInt ∧ (I' a0 9).toInt ≤ 4) → (I' a0 8).toInt ≥ (I0 a0 8).toInt + 1)) ∧ ((((I0 a0 9).toInt = 5 → (I0 a0 13).toInt ≥ 1) → ((I' a0 9).toInt = 5 → (I' a0 13).toInt ≥ 1))) ∧ ((v.toInt = x1.toInt ∨ (x1.toInt ≤ v.toInt ∧ v.toInt ≤ x2.toInt))) ∧ True)) := by
  refine ConE.of (by decide +kernel) rfl (Nat.le_of_ble_eq_true rfl) rfl (fun X hX hZ hE => ?_)
  subst hX
  have hS0 : St T cn K N d wi_X12_readWhole wr_X12_readWhole I0 R0 I0 R0 := St.rf0 hW0
  obtain ⟨v1, c2⟩ : ∃ v, I0 a0 9 = v := ⟨_, rfl⟩
  have b3 := iv15_9 hS0.1 ta0 c2
  obtain ⟨v4, c5⟩ : ∃ v, I0 a0 8 = v := ⟨_, rfl⟩
  have b6 := iv15_8 hS0.1 ta0 c5
  obtain ⟨v7, c8⟩ : ∃ v, I0 a0 13 = v := ⟨_, rfl⟩
  refine tr_aload_n dX12_readWhole_0 rfl ?_
  refine tr_iload_n dX12_readWhole_1 rfl ?_
  refine tr_iload_n dX12_readWhole_2 rfl ?_
  refine q_callVi hE (M' := mX12_bounded) (as := [_, _]) dX12_readWhole_3 lk12_153 inX12_bounded seX12_bounded myX12_bounded (by decide) ⟨by decide, by decide⟩ rfl (kR15 hS0.1 ta0) (Nat.le_of_ble_eq_true rfl) rfl rfl (by decide) (by decide) (k_X12_bounded hS0.1 ta0) ?_
  rintro v13 cn' K' N' I9 R10 L11 ⟨rfl, rfl, rfl, rfl, rfl, g12, p14, p15, p16, p17, -⟩
  have hS18 := hS0.tr g12 (by decide +kernel) (by decide +kernel)
  have c19 : I9 a0 8 = v4 := (g12.cell ta0 (by decide +kernel)).trans c5
  obtain ⟨v20, c21⟩ : ∃ v, I9 a0 9 = v := ⟨_, rfl⟩
  have b22 := iv15_9 hS18.1 ta0 c21
  have p23 := p14
  rw [c2] at p23
  rw [c21] at p23
  have p24 := p15
  have p25 := p16
  rw [c21] at p25
  rw [c2] at p25
  obtain ⟨v26, c27⟩ : ∃ v, I9 a0 13 = v := ⟨_, rfl⟩
  have p28 := p17
  rw [c2] at p28
  rw [c8] at p28
  rw [c21] at p28
  rw [c27] at p28
  refine tr_istore_n dX12_readWhole_6 (by decide) (by decide) ?_
  refine tr_aload_n dX12_readWhole_7 rfl ?_
  refine q_callVv hE (M' := mX12_goesOn) (as := []) dX12_readWhole_8 lk12_142 inX12_goesOn seX12_goesOn myX12_goesOn (by decide) ⟨by decide, by decide⟩ rfl (kR15 hS18.1 ta0) (Nat.le_of_ble_eq_true rfl) rfl rfl (by decide) (by decide) (k_X12_goesOn hS18.1 ta0) ?_
  rintro cn' K' N' I29 R30 L31 ⟨rfl, rfl, rfl, rfl, g32, p34, p35, p36, p37, -⟩
  have hS38 := hS18.tr g32 (by decide +kernel) (by decide +kernel)
  have c39 : I29 a0 13 = v26 := (g32.cell ta0 (by decide +kernel)).trans c27
  obtain ⟨v40, c41⟩ : ∃ v, I29 a0 9 = v := ⟨_, rfl⟩
  have b42 := iv15_9 hS38.1 ta0 c41
  obtain ⟨v43, c44⟩ : ∃ v, I29 a0 8 = v := ⟨_, rfl⟩
  have b45 := iv15_8 hS38.1 ta0 c44
  have p46 := p34
  rw [c21] at p46
  rw [c41] at p46
  rw [c44] at p46
  rw [c19] at p46
  have p47 := p35
  rw [c21] at p47
  rw [c41] at p47
  have p48 := p36
  rw [c44] at p48
  rw [c19] at p48
  have p49 := p37
  rw [c21] at p49
  rw [c41] at p49
  rw [c44] at p49
  rw [c19] at p49
  refine tr_iload_n dX12_readWhole_11 rfl ?_
  exact tr_iret hZ dX12_readWhole_12 rfl (by decide) (by decide) ⟨v13, rfl, rfl, rfl, rfl, rfl, hS38, (by (try rw [c2]); (try rw [c41]); (try omega)), (by (try rw [c44]); (try rw [c5]); (try omega)), (by (try rw [c41]); (try rw [c44]); (try rw [c5]); (try omega)), (by (try rw [c2]); (try rw [c8]); (try rw [c41]); (try rw [c39]); (try omega)), (by omega), trivial⟩
def wi_X12_readPart : List Nat := [968, 969, 970, 971, 972, 973, 974]
def wr_X12_readPart : List Nat := []
set_option maxHeartbeats 4000000 in
theorem k_X12_readPart {l : Launch} {T : Nat → Nat} {cn : Nat} {K N : Nat → Nat} {I0 : cz_I} {R0 : cz_R} {L0 : cz_L} {d : Int} (hW0 : Wf T cn K N I0 R0 d) {a0 : Nat} (ta0 : T a0 = 15) {u1 : UInt32} (hu1 : u1.toNat < cz_NS) {x2 : Int32} {x3 : Int32} : ConE l mX12_readPart [.ref a0, .float u1, .int x2, .int x3] cn K N I0 R0 L0 (ca_i (fun v cn' K' N' I' R' L' => cn = cn' ∧ K = K' ∧ N = N' ∧ R0 = R' ∧ St T cn K N d wi_X12_readPart wr_X12_readPart I0 R0 I' R0 ∧ (((I0 a0 9).toInt = 5 → (I' a0 9).toInt = 5)) ∧ ((I' a0 8).toInt ≥ (I0 a0 8).toInt) ∧ (((2 ≤ (I' a0 9).toInt ∧ (I' a0 9).toInt ≤ 4) → (I' a0 8).toInt ≥ (I0 a0 8).toInt + 1)) ∧ ((((I0 a0 9).toInt = 5 → (I0 a0 13).toInt ≥ 1) → ((I' a0 9).toInt = 5 → (I' a0 13).toInt ≥ 1))) ∧ ((v.toInt = x2.toInt ∨ (x2.toInt ≤ v.toInt ∧ v.toInt ≤ x3.toInt))) ∧ True)) := by
  refine ConE.of (by decide +kernel) rfl (Nat.le_of_ble_eq_true rfl) rfl (fun X hX hZ hE => ?_)
  subst hX
  have hS0 : St T cn K N d wi_X12_readPart wr_X12_readPart I0 R0 I0 R0 := St.rf0 hW0
  obtain ⟨v1, c2⟩ : ∃ v, I0 a0 9 = v := ⟨_, rfl⟩
  have b3 := iv15_9 hS0.1 ta0 c2
  obtain ⟨v4, c5⟩ : ∃ v, I0 a0 8 = v := ⟨_, rfl⟩
  have b6 := iv15_8 hS0.1 ta0 c5
  obtain ⟨v7, c8⟩ : ∃ v, I0 a0 13 = v := ⟨_, rfl⟩
  refine tr_aload_n dX12_readPart_0 rfl ?_
  refine tr_aload_nS dX12_readPart_1 rfl ?_
  refine q_callVv hE (M' := mX12_needs) (as := [_]) dX12_readPart_2 lk12_157 inX12_needs seX12_needs myX12_needs (by decide) ⟨by decide, by decide⟩ rfl (kR15 hS0.1 ta0) (Nat.le_of_ble_eq_true rfl) rfl rfl (by decide) (by decide) (k_X12_needs hS0.1 ta0 hu1) ?_
  rintro cn' K' N' I9 R10 L11 ⟨rfl, rfl, rfl, rfl, g12, p14, p15, p16, p17, -⟩
  have hS18 := hS0.tr g12 (by decide +kernel) (by decide +kernel)
  obtain ⟨v19, c20⟩ : ∃ v, I9 a0 9 = v := ⟨_, rfl⟩
  have b21 := iv15_9 hS18.1 ta0 c20
  have p22 := p14
  rw [c2] at p22
  rw [c20] at p22
  obtain ⟨v23, c24⟩ : ∃ v, I9 a0 8 = v := ⟨_, rfl⟩
  have b25 := iv15_8 hS18.1 ta0 c24
  have p26 := p15
  rw [c24] at p26
  rw [c5] at p26
  have p27 := p16
  rw [c20] at p27
  rw [c24] at p27
  rw [c5] at p27
  obtain ⟨v28, c29⟩ : ∃ v, I9 a0 13 = v := ⟨_, rfl⟩
  have p30 := p17
  rw [c2] at p30
  rw [c8] at p30
  rw [c20] at p30
  rw [c29] at p30
  refine tr_aload_n dX12_readPart_5 rfl ?_
  refine tr_iload_n dX12_readPart_6 rfl ?_
  refine tr_iload_n dX12_readPart_7 rfl ?_
  refine q_callVi hE (M' := mX12_readWhole) (as := [_, _]) dX12_readPart_8 lk12_161 inX12_readWhole seX12_readWhole myX12_readWhole (by decide) ⟨by decide, by decide⟩ rfl (kR15 hS18.1 ta0) (Nat.le_of_ble_eq_true rfl) rfl rfl (by decide) (by decide) (k_X12_readWhole hS18.1 ta0) ?_
  rintro v35 cn' K' N' I31 R32 L33 ⟨rfl, rfl, rfl, rfl, g34, p36, p37, p38, p39, p40, -⟩
  have hS41 := hS18.tr g34 (by decide +kernel) (by decide +kernel)
  obtain ⟨v42, c43⟩ : ∃ v, I31 a0 9 = v := ⟨_, rfl⟩
  have b44 := iv15_9 hS41.1 ta0 c43
  have p45 := p36
  rw [c20] at p45
  rw [c43] at p45
  obtain ⟨v46, c47⟩ : ∃ v, I31 a0 8 = v := ⟨_, rfl⟩
  have b48 := iv15_8 hS41.1 ta0 c47
  have p49 := p37
  rw [c47] at p49
  rw [c24] at p49
  have p50 := p38
  rw [c43] at p50
  rw [c47] at p50
  rw [c24] at p50
  obtain ⟨v51, c52⟩ : ∃ v, I31 a0 13 = v := ⟨_, rfl⟩
  have p53 := p39
  rw [c20] at p53
  rw [c29] at p53
  rw [c43] at p53
  rw [c52] at p53
  have p54 := p40
  exact tr_iret hZ dX12_readPart_11 rfl (by decide) (by decide) ⟨v35, rfl, rfl, rfl, rfl, rfl, hS41, (by (try rw [c2]); (try rw [c43]); (try omega)), (by (try rw [c47]); (try rw [c5]); (try omega)), (by (try rw [c43]); (try rw [c47]); (try rw [c5]); (try omega)), (by (try rw [c2]); (try rw [c8]); (try rw [c43]); (try rw [c52]); (try omega)), (by omega), trivial⟩
def wi_X12_readCall : List Nat := [901, 968, 969, 970, 971, 972, 973, 974, 4479, 4543, 4607, 4671]
def wr_X12_readCall : List Nat := []
set_option maxHeartbeats 4000000 in
theorem k_X12_readCall {l : Launch} {T : Nat → Nat} {cn : Nat} {K N : Nat → Nat} {I0 : cz_I} {R0 : cz_R} {L0 : cz_L} {d : Int} (hW0 : Wf T cn K N I0 R0 d) {a0 : Nat} (ta0 : T a0 = 15) (nn4 : ∃ b, R0 a0 4 = some b) : ConE l mX12_readCall [.ref a0] cn K N I0 R0 L0 (ca_v (fun cn' K' N' I' R' L' => cn = cn' ∧ K = K' ∧ N = N' ∧ R0 = R' ∧ St T cn K N d wi_X12_readCall wr_X12_readCall I0 R0 I' R0 ∧ (((I0 a0 9).toInt = 5 → (I' a0 9).toInt = 5)) ∧ ((I' a0 8).toInt ≥ (I0 a0 8).toInt) ∧ (((2 ≤ (I' a0 9).toInt ∧ (I' a0 9).toInt ≤ 4) → (I' a0 8).toInt ≥ (I0 a0 8).toInt + 1)) ∧ ((((I0 a0 9).toInt = 5 → (I0 a0 13).toInt ≥ 1) → ((I' a0 9).toInt = 5 → (I' a0 13).toInt ≥ 1))) ∧ True)) := by
  refine ConE.of (by decide +kernel) rfl (Nat.le_of_ble_eq_true rfl) rfl (fun X hX hZ hE => ?_)
  subst hX
  have hS0 : St T cn K N d wi_X12_readCall wr_X12_readCall I0 R0 I0 R0 := St.rf0 hW0
  obtain ⟨a1, d2⟩ := nn4
  have ta1 : T a1 = 14 := hW0.rsN ta0 rfl d2
  obtain ⟨v3, c4⟩ : ∃ v, I0 a0 9 = v := ⟨_, rfl⟩
  have b5 := iv15_9 hS0.1 ta0 c4
  obtain ⟨v6, c7⟩ : ∃ v, I0 a0 8 = v := ⟨_, rfl⟩
  have b8 := iv15_8 hS0.1 ta0 c7
  obtain ⟨v9, c10⟩ : ∃ v, I0 a0 13 = v := ⟨_, rfl⟩
  refine tr_aload_n dX12_readCall_0 rfl ?_
  refine tr_aload_n dX12_readCall_1 rfl ?_
  refine tr_getR dX12_readCall_2 fl12_188 (kR15 hS0.1 ta0) d2 ?_
  obtain ⟨v11, c12⟩ : ∃ v, I0 a1 5 = v := ⟨_, rfl⟩
  have b13 := iv14_5 hS0.1 ta1 c12
  refine q_getI dX12_readCall_5 fl12_349 (kR14 hS0.1 ta1) c12 ?_
  refine q_bipush dX12_readCall_8 (by decide +kernel) ?_
  intro v14 h15
  refine q_callVv hE (M' := mX12_begins) (as := [_, _]) dX12_readCall_10 lk12_268 inX12_begins seX12_begins myX12_begins (by decide) ⟨by decide, by decide⟩ rfl (kR15 hS0.1 ta0) (Nat.le_of_ble_eq_true rfl) rfl rfl (by decide) (by decide) (k_X12_begins hS0.1 ta0 ⟨_, d2⟩) ?_
  rintro cn' K' N' I16 R17 L18 ⟨rfl, rfl, rfl, rfl, g19, p21, p22, p23, p24, p25, -⟩
  have hS26 := hS0.tr g19 (by decide +kernel) (by decide +kernel)
  have c27 : I16 a1 5 = v11 := (g19.cell ta1 (by decide +kernel)).trans c12
  obtain ⟨v28, c29⟩ : ∃ v, I16 a0 9 = v := ⟨_, rfl⟩
  have b30 := iv15_9 hS26.1 ta0 c29
  have p31 := p21
  rw [c4] at p31
  rw [c29] at p31
  obtain ⟨v32, c33⟩ : ∃ v, I16 a0 8 = v := ⟨_, rfl⟩
  have b34 := iv15_8 hS26.1 ta0 c33
  have p35 := p22
  rw [c33] at p35
  rw [c7] at p35
  have p36 := p23
  rw [c29] at p36
  rw [c33] at p36
  rw [c7] at p36
  obtain ⟨v37, c38⟩ : ∃ v, I16 a0 13 = v := ⟨_, rfl⟩
  have p39 := p24
  rw [c4] at p39
  rw [c10] at p39
  rw [c29] at p39
  rw [c38] at p39
  have p40 := p25
  rw [c29] at p40
  refine tr_aload_n dX12_readCall_13 rfl ?_
  refine q_callVi hE (M' := mX12_isName) (as := []) dX12_readCall_14 lk12_197 inX12_isName seX12_isName myX12_isName (by decide) ⟨by decide, by decide⟩ rfl (kR15 hS26.1 ta0) (Nat.le_of_ble_eq_true rfl) rfl rfl (by decide) (by decide) (k_X12_isName hS26.1 ta0) ?_
  rintro v45 cn' K' N' I41 R42 L43 ⟨rfl, rfl, rfl, rfl, rfl, rfl, h46, -⟩
  refine q_if_ne 25 dX12_readCall_17 (by decide) (fun h47 => ?_) (fun h47 => ?_)
  · skip
    refine tr_aload_n dX12_readCall_25 rfl ?_
    refine tr_getR dX12_readCall_26 fl12_188 (kR15 hS26.1 ta0) d2 ?_
    refine tr_aload_n dX12_readCall_29 rfl ?_
    refine q_getL dX12_readCall_30 fl12_118 (kR15 hS26.1 ta0) ?_
    intro y48
    refine q_callVi hE (M' := mX11_find) (as := [_]) dX12_readCall_33 lk12_201 inX11_find seX11_find myX11_find (by decide) ⟨by decide, by decide⟩ rfl (kR14 hS26.1 ta1) (Nat.le_of_ble_eq_true rfl) rfl rfl (by decide) (by decide) (k_X11_find hS26.1 ta1) ?_
    rintro v53 cn' K' N' I49 R50 L51 ⟨rfl, rfl, rfl, rfl, rfl, rfl, h54, -⟩
    refine tr_istore_n dX12_readCall_36 (by decide) (by decide) ?_
    refine tr_iload_n dX12_readCall_37 rfl ?_
    refine q_iconst dX12_readCall_38 (by decide) ?_
    intro v55 h56
    refine q_icmp_eq 55 dX12_readCall_39 (by decide) (fun h57 => ?_) (fun h57 => ?_)
    · skip
      refine tr_aload_n dX12_readCall_55 rfl ?_
      refine q_iconst dX12_readCall_56 (by decide) ?_
      intro v58 h59
      refine q_callVv hE (M' := mX12_flaw) (as := [_]) dX12_readCall_57 lk12_145 inX12_flaw seX12_flaw myX12_flaw (by decide) ⟨by decide, by decide⟩ rfl (kR15 hS26.1 ta0) (Nat.le_of_ble_eq_true rfl) rfl rfl (by decide) (by decide) (k_X12_flaw hS26.1 ta0 (by omega)) ?_
      rintro cn' K' N' I60 R61 L62 ⟨rfl, rfl, rfl, rfl, rfl, g63, p65, p66, -⟩
      have hS67 := hS26.tr g63 (by decide +kernel) (by decide +kernel)
      have c68 : I60 a1 5 = v11 := (g63.cell ta1 (by decide +kernel)).trans c27
      have c69 : I60 a0 8 = v32 := (g63.cell ta0 (by decide +kernel)).trans c33
      obtain ⟨v70, c71⟩ : ∃ v, I60 a0 9 = v := ⟨_, rfl⟩
      have b72 := iv15_9 hS67.1 ta0 c71
      have p73 := p65
      rw [c71] at p73
      obtain ⟨v74, c75⟩ : ∃ v, I60 a0 13 = v := ⟨_, rfl⟩
      have p76 := p66
      rw [c29] at p76
      rw [c38] at p76
      rw [c75] at p76
      refine tr_aload_n dX12_readCall_60 rfl ?_
      refine q_getI dX12_readCall_61 fl12_99 (kR15 hS67.1 ta0) c71 ?_
      refine q_iconst dX12_readCall_64 (by decide) ?_
      intro v77 h78
      refine q_icmp_ne 72 dX12_readCall_65 (by decide) (fun h79 => ?_) (fun h79 => ?_)
      · skip
        exfalso; omega
      · skip
        refine q_iconst dX12_readCall_68 (by decide) ?_
        intro v80 h81
        refine tr_goto 81 dX12_readCall_69 (by decide) ?_
        refine tr_istore_n dX12_readCall_81 (by decide) (by decide) ?_
        refine tr_aload_n dX12_readCall_82 rfl ?_
        refine q_callVv hE (M' := mX12_goesOn) (as := []) dX12_readCall_83 lk12_142 inX12_goesOn seX12_goesOn myX12_goesOn (by decide) ⟨by decide, by decide⟩ rfl (kR15 hS67.1 ta0) (Nat.le_of_ble_eq_true rfl) rfl rfl (by decide) (by decide) (k_X12_goesOn hS67.1 ta0) ?_
        rintro cn' K' N' I82 R83 L84 ⟨rfl, rfl, rfl, rfl, g85, p87, p88, p89, p90, -⟩
        have hS91 := hS67.tr g85 (by decide +kernel) (by decide +kernel)
        have c92 : I82 a1 5 = v11 := (g85.cell ta1 (by decide +kernel)).trans c68
        have c93 : I82 a0 13 = v74 := (g85.cell ta0 (by decide +kernel)).trans c75
        obtain ⟨v94, c95⟩ : ∃ v, I82 a0 9 = v := ⟨_, rfl⟩
        have b96 := iv15_9 hS91.1 ta0 c95
        obtain ⟨v97, c98⟩ : ∃ v, I82 a0 8 = v := ⟨_, rfl⟩
        have b99 := iv15_8 hS91.1 ta0 c98
        have p100 := p87
        rw [c71] at p100
        rw [c95] at p100
        rw [c98] at p100
        rw [c69] at p100
        have p101 := p88
        rw [c71] at p101
        rw [c95] at p101
        have p102 := p89
        rw [c98] at p102
        rw [c69] at p102
        have p103 := p90
        rw [c71] at p103
        rw [c95] at p103
        rw [c98] at p103
        rw [c69] at p103
        refine tr_aload_n dX12_readCall_86 rfl ?_
        refine tr_ldcwS dX12_readCall_87 ld12_352 ?_
        refine q_iconst dX12_readCall_90 (by decide) ?_
        intro v104 h105
        refine tr_aload_n dX12_readCall_91 rfl ?_
        refine tr_getR dX12_readCall_92 fl12_188 (kR15 hS91.1 ta0) d2 ?_
        obtain ⟨v106, c107⟩ : ∃ v, I0 a1 0 = v := ⟨_, rfl⟩
        have b108 := iv14_0 hW0 ta1 c107
        refine q_getI dX12_readCall_95 fl12_192 (kR14 hS91.1 ta1) ((hS91.cell ta1 (by decide +kernel)).trans c107) ?_
        refine q_iconst dX12_readCall_98 (by decide) ?_
        intro v109 h110
        refine q_isubE dX12_readCall_99 (by intros; omega) ?_
        intro v111 h112
        refine q_callVi hE (M' := mX12_readPart) (as := [_, _, _]) dX12_readCall_100 lk12_249 inX12_readPart seX12_readPart myX12_readPart (by decide) ⟨by decide, by decide⟩ rfl (kR15 hS91.1 ta0) (Nat.le_of_ble_eq_true rfl) rfl rfl (by decide) (by decide) (k_X12_readPart hS91.1 ta0 (by decide)) ?_
        rintro v117 cn' K' N' I113 R114 L115 ⟨rfl, rfl, rfl, rfl, g116, p118, p119, p120, p121, p122, -⟩
        have hS123 := hS91.tr g116 (by decide +kernel) (by decide +kernel)
        have c124 : I113 a1 5 = v11 := (g116.cell ta1 (by decide +kernel)).trans c92
        obtain ⟨v125, c126⟩ : ∃ v, I113 a0 9 = v := ⟨_, rfl⟩
        have b127 := iv15_9 hS123.1 ta0 c126
        have p128 := p118
        rw [c95] at p128
        rw [c126] at p128
        obtain ⟨v129, c130⟩ : ∃ v, I113 a0 8 = v := ⟨_, rfl⟩
        have b131 := iv15_8 hS123.1 ta0 c130
        have p132 := p119
        rw [c130] at p132
        rw [c98] at p132
        have p133 := p120
        rw [c126] at p133
        rw [c130] at p133
        rw [c98] at p133
        obtain ⟨v134, c135⟩ : ∃ v, I113 a0 13 = v := ⟨_, rfl⟩
        have p136 := p121
        rw [c95] at p136
        rw [c93] at p136
        rw [c126] at p136
        rw [c135] at p136
        have p137 := p122
        refine tr_istore_n dX12_readCall_103 (by decide) (by decide) ?_
        refine tr_aload_n dX12_readCall_104 rfl ?_
        refine tr_ldcwS dX12_readCall_105 ld12_354 ?_
        refine q_iconst dX12_readCall_108 (by decide) ?_
        intro v138 h139
        refine q_bipush dX12_readCall_109 (by decide +kernel) ?_
        intro v140 h141
        refine q_callVi hE (M' := mX12_readPart) (as := [_, _, _]) dX12_readCall_111 lk12_249 inX12_readPart seX12_readPart myX12_readPart (by decide) ⟨by decide, by decide⟩ rfl (kR15 hS123.1 ta0) (Nat.le_of_ble_eq_true rfl) rfl rfl (by decide) (by decide) (k_X12_readPart hS123.1 ta0 (by decide)) ?_
        rintro v146 cn' K' N' I142 R143 L144 ⟨rfl, rfl, rfl, rfl, g145, p147, p148, p149, p150, p151, -⟩
        have hS152 := hS123.tr g145 (by decide +kernel) (by decide +kernel)
        have c153 : I142 a1 5 = v11 := (g145.cell ta1 (by decide +kernel)).trans c124
        obtain ⟨v154, c155⟩ : ∃ v, I142 a0 9 = v := ⟨_, rfl⟩
        have b156 := iv15_9 hS152.1 ta0 c155
        have p157 := p147
        rw [c126] at p157
        rw [c155] at p157
        obtain ⟨v158, c159⟩ : ∃ v, I142 a0 8 = v := ⟨_, rfl⟩
        have b160 := iv15_8 hS152.1 ta0 c159
        have p161 := p148
        rw [c159] at p161
        rw [c130] at p161
        have p162 := p149
        rw [c155] at p162
        rw [c159] at p162
        rw [c130] at p162
        obtain ⟨v163, c164⟩ : ∃ v, I142 a0 13 = v := ⟨_, rfl⟩
        have p165 := p150
        rw [c126] at p165
        rw [c135] at p165
        rw [c155] at p165
        rw [c164] at p165
        have p166 := p151
        refine tr_istore dX12_readCall_114 (by decide) (by decide) ?_
        refine tr_aload_n dX12_readCall_116 rfl ?_
        refine tr_ldcwS dX12_readCall_117 ld12_356 ?_
        refine q_iconst dX12_readCall_120 (by decide) ?_
        intro v167 h168
        refine q_bipush dX12_readCall_121 (by decide +kernel) ?_
        intro v169 h170
        refine q_callVi hE (M' := mX12_readPart) (as := [_, _, _]) dX12_readCall_123 lk12_249 inX12_readPart seX12_readPart myX12_readPart (by decide) ⟨by decide, by decide⟩ rfl (kR15 hS152.1 ta0) (Nat.le_of_ble_eq_true rfl) rfl rfl (by decide) (by decide) (k_X12_readPart hS152.1 ta0 (by decide)) ?_
        rintro v175 cn' K' N' I171 R172 L173 ⟨rfl, rfl, rfl, rfl, g174, p176, p177, p178, p179, p180, -⟩
        have hS181 := hS152.tr g174 (by decide +kernel) (by decide +kernel)
        have c182 : I171 a1 5 = v11 := (g174.cell ta1 (by decide +kernel)).trans c153
        obtain ⟨v183, c184⟩ : ∃ v, I171 a0 9 = v := ⟨_, rfl⟩
        have b185 := iv15_9 hS181.1 ta0 c184
        have p186 := p176
        rw [c155] at p186
        rw [c184] at p186
        obtain ⟨v187, c188⟩ : ∃ v, I171 a0 8 = v := ⟨_, rfl⟩
        have b189 := iv15_8 hS181.1 ta0 c188
        have p190 := p177
        rw [c188] at p190
        rw [c159] at p190
        have p191 := p178
        rw [c184] at p191
        rw [c188] at p191
        rw [c159] at p191
        obtain ⟨v192, c193⟩ : ∃ v, I171 a0 13 = v := ⟨_, rfl⟩
        have p194 := p179
        rw [c155] at p194
        rw [c164] at p194
        rw [c184] at p194
        rw [c193] at p194
        have p195 := p180
        refine tr_istore dX12_readCall_126 (by decide) (by decide) ?_
        refine tr_aload_n dX12_readCall_128 rfl ?_
        refine q_getI dX12_readCall_129 fl12_99 (kR15 hS181.1 ta0) c184 ?_
        refine q_iconst dX12_readCall_132 (by decide) ?_
        intro v196 h197
        refine q_icmp_ne 137 dX12_readCall_133 (by decide) (fun h198 => ?_) (fun h198 => ?_)
        · skip
          exfalso; omega
        · skip
          exact tr_vret hZ dX12_readCall_136 rfl (by decide) (by decide) ⟨rfl, rfl, rfl, rfl, rfl, hS181, (by (try rw [c4]); (try rw [c184]); (try omega)), (by (try rw [c188]); (try rw [c7]); (try omega)), (by (try rw [c184]); (try rw [c188]); (try rw [c7]); (try omega)), (by (try rw [c4]); (try rw [c10]); (try rw [c184]); (try rw [c193]); (try omega)), trivial⟩
    · skip
      refine tr_aload_n dX12_readCall_42 rfl ?_
      refine tr_getR dX12_readCall_43 fl12_188 (kR15 hS26.1 ta0) d2 ?_
      obtain ⟨a199, d200, ta199⟩ := rf14_31 hW0 ta1
      refine tr_getR dX12_readCall_46 fl12_212 (kR14 hS26.1 ta1) d200 ?_
      refine tr_iload_n dX12_readCall_49 rfl ?_
      refine q_iald dX12_readCall_50 (kR74 hS26.1 ta199) (ti_in (nR74 hS26.1 ta199) (by omega) (by omega)) ?_
      intro v201 c202
      refine q_iconst dX12_readCall_51 (by decide) ?_
      intro v203 h204
      refine q_icmp_eq 60 dX12_readCall_52 (by decide) (fun h205 => ?_) (fun h205 => ?_)
      · skip
        refine tr_aload_n dX12_readCall_60 rfl ?_
        refine q_getI dX12_readCall_61 fl12_99 (kR15 hS26.1 ta0) c29 ?_
        refine q_iconst dX12_readCall_64 (by decide) ?_
        intro v206 h207
        refine q_icmp_ne 72 dX12_readCall_65 (by decide) (fun h208 => ?_) (fun h208 => ?_)
        · skip
          refine tr_aload_n dX12_readCall_72 rfl ?_
          refine tr_getR dX12_readCall_73 fl12_188 (kR15 hS26.1 ta0) d2 ?_
          obtain ⟨a209, d210, ta209⟩ := rf14_32 hW0 ta1
          refine tr_getR dX12_readCall_76 fl12_215 (kR14 hS26.1 ta1) d210 ?_
          refine tr_iload_n dX12_readCall_79 rfl ?_
          refine q_iald dX12_readCall_80 (kR75 hS26.1 ta209) (ti_in (nR75 hS26.1 ta209) (by omega) (by omega)) ?_
          intro v211 c212
          refine tr_istore_n dX12_readCall_81 (by decide) (by decide) ?_
          refine tr_aload_n dX12_readCall_82 rfl ?_
          refine q_callVv hE (M' := mX12_goesOn) (as := []) dX12_readCall_83 lk12_142 inX12_goesOn seX12_goesOn myX12_goesOn (by decide) ⟨by decide, by decide⟩ rfl (kR15 hS26.1 ta0) (Nat.le_of_ble_eq_true rfl) rfl rfl (by decide) (by decide) (k_X12_goesOn hS26.1 ta0) ?_
          rintro cn' K' N' I213 R214 L215 ⟨rfl, rfl, rfl, rfl, g216, p218, p219, p220, p221, -⟩
          have hS222 := hS26.tr g216 (by decide +kernel) (by decide +kernel)
          have c223 : I213 a1 5 = v11 := (g216.cell ta1 (by decide +kernel)).trans c27
          have c224 : I213 a0 13 = v37 := (g216.cell ta0 (by decide +kernel)).trans c38
          obtain ⟨v225, c226⟩ : ∃ v, I213 a0 9 = v := ⟨_, rfl⟩
          have b227 := iv15_9 hS222.1 ta0 c226
          obtain ⟨v228, c229⟩ : ∃ v, I213 a0 8 = v := ⟨_, rfl⟩
          have b230 := iv15_8 hS222.1 ta0 c229
          have p231 := p218
          rw [c29] at p231
          rw [c226] at p231
          rw [c229] at p231
          rw [c33] at p231
          have p232 := p219
          rw [c29] at p232
          rw [c226] at p232
          have p233 := p220
          rw [c229] at p233
          rw [c33] at p233
          have p234 := p221
          rw [c29] at p234
          rw [c226] at p234
          rw [c229] at p234
          rw [c33] at p234
          refine tr_aload_n dX12_readCall_86 rfl ?_
          refine tr_ldcwS dX12_readCall_87 ld12_352 ?_
          refine q_iconst dX12_readCall_90 (by decide) ?_
          intro v235 h236
          refine tr_aload_n dX12_readCall_91 rfl ?_
          refine tr_getR dX12_readCall_92 fl12_188 (kR15 hS222.1 ta0) d2 ?_
          obtain ⟨v237, c238⟩ : ∃ v, I0 a1 0 = v := ⟨_, rfl⟩
          have b239 := iv14_0 hW0 ta1 c238
          refine q_getI dX12_readCall_95 fl12_192 (kR14 hS222.1 ta1) ((hS222.cell ta1 (by decide +kernel)).trans c238) ?_
          refine q_iconst dX12_readCall_98 (by decide) ?_
          intro v240 h241
          refine q_isubE dX12_readCall_99 (by intros; omega) ?_
          intro v242 h243
          refine q_callVi hE (M' := mX12_readPart) (as := [_, _, _]) dX12_readCall_100 lk12_249 inX12_readPart seX12_readPart myX12_readPart (by decide) ⟨by decide, by decide⟩ rfl (kR15 hS222.1 ta0) (Nat.le_of_ble_eq_true rfl) rfl rfl (by decide) (by decide) (k_X12_readPart hS222.1 ta0 (by decide)) ?_
          rintro v248 cn' K' N' I244 R245 L246 ⟨rfl, rfl, rfl, rfl, g247, p249, p250, p251, p252, p253, -⟩
          have hS254 := hS222.tr g247 (by decide +kernel) (by decide +kernel)
          have c255 : I244 a1 5 = v11 := (g247.cell ta1 (by decide +kernel)).trans c223
          obtain ⟨v256, c257⟩ : ∃ v, I244 a0 9 = v := ⟨_, rfl⟩
          have b258 := iv15_9 hS254.1 ta0 c257
          have p259 := p249
          rw [c226] at p259
          rw [c257] at p259
          obtain ⟨v260, c261⟩ : ∃ v, I244 a0 8 = v := ⟨_, rfl⟩
          have b262 := iv15_8 hS254.1 ta0 c261
          have p263 := p250
          rw [c261] at p263
          rw [c229] at p263
          have p264 := p251
          rw [c257] at p264
          rw [c261] at p264
          rw [c229] at p264
          obtain ⟨v265, c266⟩ : ∃ v, I244 a0 13 = v := ⟨_, rfl⟩
          have p267 := p252
          rw [c226] at p267
          rw [c224] at p267
          rw [c257] at p267
          rw [c266] at p267
          have p268 := p253
          refine tr_istore_n dX12_readCall_103 (by decide) (by decide) ?_
          refine tr_aload_n dX12_readCall_104 rfl ?_
          refine tr_ldcwS dX12_readCall_105 ld12_354 ?_
          refine q_iconst dX12_readCall_108 (by decide) ?_
          intro v269 h270
          refine q_bipush dX12_readCall_109 (by decide +kernel) ?_
          intro v271 h272
          refine q_callVi hE (M' := mX12_readPart) (as := [_, _, _]) dX12_readCall_111 lk12_249 inX12_readPart seX12_readPart myX12_readPart (by decide) ⟨by decide, by decide⟩ rfl (kR15 hS254.1 ta0) (Nat.le_of_ble_eq_true rfl) rfl rfl (by decide) (by decide) (k_X12_readPart hS254.1 ta0 (by decide)) ?_
          rintro v277 cn' K' N' I273 R274 L275 ⟨rfl, rfl, rfl, rfl, g276, p278, p279, p280, p281, p282, -⟩
          have hS283 := hS254.tr g276 (by decide +kernel) (by decide +kernel)
          have c284 : I273 a1 5 = v11 := (g276.cell ta1 (by decide +kernel)).trans c255
          obtain ⟨v285, c286⟩ : ∃ v, I273 a0 9 = v := ⟨_, rfl⟩
          have b287 := iv15_9 hS283.1 ta0 c286
          have p288 := p278
          rw [c257] at p288
          rw [c286] at p288
          obtain ⟨v289, c290⟩ : ∃ v, I273 a0 8 = v := ⟨_, rfl⟩
          have b291 := iv15_8 hS283.1 ta0 c290
          have p292 := p279
          rw [c290] at p292
          rw [c261] at p292
          have p293 := p280
          rw [c286] at p293
          rw [c290] at p293
          rw [c261] at p293
          obtain ⟨v294, c295⟩ : ∃ v, I273 a0 13 = v := ⟨_, rfl⟩
          have p296 := p281
          rw [c257] at p296
          rw [c266] at p296
          rw [c286] at p296
          rw [c295] at p296
          have p297 := p282
          refine tr_istore dX12_readCall_114 (by decide) (by decide) ?_
          refine tr_aload_n dX12_readCall_116 rfl ?_
          refine tr_ldcwS dX12_readCall_117 ld12_356 ?_
          refine q_iconst dX12_readCall_120 (by decide) ?_
          intro v298 h299
          refine q_bipush dX12_readCall_121 (by decide +kernel) ?_
          intro v300 h301
          refine q_callVi hE (M' := mX12_readPart) (as := [_, _, _]) dX12_readCall_123 lk12_249 inX12_readPart seX12_readPart myX12_readPart (by decide) ⟨by decide, by decide⟩ rfl (kR15 hS283.1 ta0) (Nat.le_of_ble_eq_true rfl) rfl rfl (by decide) (by decide) (k_X12_readPart hS283.1 ta0 (by decide)) ?_
          rintro v306 cn' K' N' I302 R303 L304 ⟨rfl, rfl, rfl, rfl, g305, p307, p308, p309, p310, p311, -⟩
          have hS312 := hS283.tr g305 (by decide +kernel) (by decide +kernel)
          have c313 : I302 a1 5 = v11 := (g305.cell ta1 (by decide +kernel)).trans c284
          obtain ⟨v314, c315⟩ : ∃ v, I302 a0 9 = v := ⟨_, rfl⟩
          have b316 := iv15_9 hS312.1 ta0 c315
          have p317 := p307
          rw [c286] at p317
          rw [c315] at p317
          obtain ⟨v318, c319⟩ : ∃ v, I302 a0 8 = v := ⟨_, rfl⟩
          have b320 := iv15_8 hS312.1 ta0 c319
          have p321 := p308
          rw [c319] at p321
          rw [c290] at p321
          have p322 := p309
          rw [c315] at p322
          rw [c319] at p322
          rw [c290] at p322
          obtain ⟨v323, c324⟩ : ∃ v, I302 a0 13 = v := ⟨_, rfl⟩
          have p325 := p310
          rw [c286] at p325
          rw [c295] at p325
          rw [c315] at p325
          rw [c324] at p325
          have p326 := p311
          refine tr_istore dX12_readCall_126 (by decide) (by decide) ?_
          refine tr_aload_n dX12_readCall_128 rfl ?_
          refine q_getI dX12_readCall_129 fl12_99 (kR15 hS312.1 ta0) c315 ?_
          refine q_iconst dX12_readCall_132 (by decide) ?_
          intro v327 h328
          refine q_icmp_ne 137 dX12_readCall_133 (by decide) (fun h329 => ?_) (fun h329 => ?_)
          · skip
            refine tr_aload_n dX12_readCall_137 rfl ?_
            refine tr_getR dX12_readCall_138 fl12_188 (kR15 hS312.1 ta0) d2 ?_
            obtain ⟨a330, d331, ta330⟩ := rf14_26 hW0 ta1
            refine tr_getR dX12_readCall_141 fl12_358 (kR14 hS312.1 ta1) d331 ?_
            refine tr_aload_n dX12_readCall_144 rfl ?_
            refine tr_getR dX12_readCall_145 fl12_188 (kR15 hS312.1 ta0) d2 ?_
            refine q_getI dX12_readCall_148 fl12_349 (kR14 hS312.1 ta1) c313 ?_
            refine tr_iload_n dX12_readCall_151 rfl ?_
            refine q_iast dX12_readCall_152 (kR69 hS312.1 ta330) (ti_in (nR69 hS312.1 ta330) (by omega) (by omega)) hS312 ta330 (iokF rfl) rfl (by rfl) ?_
            intro I332 hS333 e335 f334
            have c336 : I332 a1 5 = v11 := (f334 _ _ (fun q => by have z := ta1; rw [q.1, ta330] at z; exact absurd z (by decide))).trans c313
            have c337 : I332 a0 9 = v314 := (f334 _ _ (fun q => by have z := ta0; rw [q.1, ta330] at z; exact absurd z (by decide))).trans c315
            have c338 : I332 a0 8 = v318 := (f334 _ _ (fun q => by have z := ta0; rw [q.1, ta330] at z; exact absurd z (by decide))).trans c319
            have c339 : I332 a0 13 = v323 := (f334 _ _ (fun q => by have z := ta0; rw [q.1, ta330] at z; exact absurd z (by decide))).trans c324
            refine tr_aload_n dX12_readCall_153 rfl ?_
            refine tr_getR dX12_readCall_154 fl12_188 (kR15 hS333.1 ta0) d2 ?_
            obtain ⟨a340, d341, ta340⟩ := rf14_27 hW0 ta1
            refine tr_getR dX12_readCall_157 fl12_361 (kR14 hS333.1 ta1) d341 ?_
            refine tr_aload_n dX12_readCall_160 rfl ?_
            refine tr_getR dX12_readCall_161 fl12_188 (kR15 hS333.1 ta0) d2 ?_
            refine q_getI dX12_readCall_164 fl12_349 (kR14 hS333.1 ta1) c336 ?_
            refine tr_iload_n dX12_readCall_167 rfl ?_
            refine q_iast dX12_readCall_168 (kR70 hS333.1 ta340) (ti_in (nR70 hS333.1 ta340) (by omega) (by omega)) hS333 ta340 (iokF rfl) rfl (by rfl) ?_
            intro I342 hS343 e345 f344
            have c346 : I342 a1 5 = v11 := (f344 _ _ (fun q => by have z := ta1; rw [q.1, ta340] at z; exact absurd z (by decide))).trans c336
            have c347 : I342 a0 9 = v314 := (f344 _ _ (fun q => by have z := ta0; rw [q.1, ta340] at z; exact absurd z (by decide))).trans c337
            have c348 : I342 a0 8 = v318 := (f344 _ _ (fun q => by have z := ta0; rw [q.1, ta340] at z; exact absurd z (by decide))).trans c338
            have c349 : I342 a0 13 = v323 := (f344 _ _ (fun q => by have z := ta0; rw [q.1, ta340] at z; exact absurd z (by decide))).trans c339
            refine tr_aload_n dX12_readCall_169 rfl ?_
            refine tr_getR dX12_readCall_170 fl12_188 (kR15 hS343.1 ta0) d2 ?_
            obtain ⟨a350, d351, ta350⟩ := rf14_28 hW0 ta1
            refine tr_getR dX12_readCall_173 fl12_364 (kR14 hS343.1 ta1) d351 ?_
            refine tr_aload_n dX12_readCall_176 rfl ?_
            refine tr_getR dX12_readCall_177 fl12_188 (kR15 hS343.1 ta0) d2 ?_
            refine q_getI dX12_readCall_180 fl12_349 (kR14 hS343.1 ta1) c346 ?_
            refine tr_iload dX12_readCall_183 rfl ?_
            refine q_iast dX12_readCall_185 (kR71 hS343.1 ta350) (ti_in (nR71 hS343.1 ta350) (by omega) (by omega)) hS343 ta350 (iokF rfl) rfl (by rfl) ?_
            intro I352 hS353 e355 f354
            have c356 : I352 a1 5 = v11 := (f354 _ _ (fun q => by have z := ta1; rw [q.1, ta350] at z; exact absurd z (by decide))).trans c346
            have c357 : I352 a0 9 = v314 := (f354 _ _ (fun q => by have z := ta0; rw [q.1, ta350] at z; exact absurd z (by decide))).trans c347
            have c358 : I352 a0 8 = v318 := (f354 _ _ (fun q => by have z := ta0; rw [q.1, ta350] at z; exact absurd z (by decide))).trans c348
            have c359 : I352 a0 13 = v323 := (f354 _ _ (fun q => by have z := ta0; rw [q.1, ta350] at z; exact absurd z (by decide))).trans c349
            refine tr_aload_n dX12_readCall_186 rfl ?_
            refine tr_getR dX12_readCall_187 fl12_188 (kR15 hS353.1 ta0) d2 ?_
            obtain ⟨a360, d361, ta360⟩ := rf14_29 hW0 ta1
            refine tr_getR dX12_readCall_190 fl12_367 (kR14 hS353.1 ta1) d361 ?_
            refine tr_aload_n dX12_readCall_193 rfl ?_
            refine tr_getR dX12_readCall_194 fl12_188 (kR15 hS353.1 ta0) d2 ?_
            refine q_getI dX12_readCall_197 fl12_349 (kR14 hS353.1 ta1) c356 ?_
            refine tr_iload dX12_readCall_200 rfl ?_
            refine q_iast dX12_readCall_202 (kR72 hS353.1 ta360) (ti_in (nR72 hS353.1 ta360) (by omega) (by omega)) hS353 ta360 (iokF rfl) rfl (by rfl) ?_
            intro I362 hS363 e365 f364
            have c366 : I362 a1 5 = v11 := (f364 _ _ (fun q => by have z := ta1; rw [q.1, ta360] at z; exact absurd z (by decide))).trans c356
            have c367 : I362 a0 9 = v314 := (f364 _ _ (fun q => by have z := ta0; rw [q.1, ta360] at z; exact absurd z (by decide))).trans c357
            have c368 : I362 a0 8 = v318 := (f364 _ _ (fun q => by have z := ta0; rw [q.1, ta360] at z; exact absurd z (by decide))).trans c358
            have c369 : I362 a0 13 = v323 := (f364 _ _ (fun q => by have z := ta0; rw [q.1, ta360] at z; exact absurd z (by decide))).trans c359
            refine tr_aload_n dX12_readCall_203 rfl ?_
            refine tr_getR dX12_readCall_204 fl12_188 (kR15 hS363.1 ta0) d2 ?_
            refine tr_dup dX12_readCall_207 rfl ?_
            refine q_getI dX12_readCall_208 fl12_349 (kR14 hS363.1 ta1) c366 ?_
            refine q_iconst dX12_readCall_211 (by decide) ?_
            intro v370 h371
            refine q_iaddE dX12_readCall_212 (by intros; omega) ?_
            intro v372 h373
            refine q_putI dX12_readCall_213 fl12_349 (kR14 hS363.1 ta1) (Or.inl rfl) hS363 ta1 (by show (0 : Int) ≤ v372.toInt ∧ v372.toInt ≤ (6 : Int); omega) rfl (by decide +kernel) ?_
            intro I374 hS375 e376 f377
            have c378 : I374 a0 9 = v314 := (f377 _ _ (fun q => absurd q.2 (by decide))).trans c367
            have c379 : I374 a0 8 = v318 := (f377 _ _ (fun q => absurd q.2 (by decide))).trans c368
            have c380 : I374 a0 13 = v323 := (f377 _ _ (fun q => absurd q.2 (by decide))).trans c369
            exact tr_vret hZ dX12_readCall_216 rfl (by decide) (by decide) ⟨rfl, rfl, rfl, rfl, rfl, hS375, (by (try rw [c4]); (try rw [c378]); (try omega)), (by (try rw [c379]); (try rw [c7]); (try omega)), (by (try rw [c378]); (try rw [c379]); (try rw [c7]); (try omega)), (by (try rw [c4]); (try rw [c10]); (try rw [c378]); (try rw [c380]); (try omega)), trivial⟩
          · skip
            exact tr_vret hZ dX12_readCall_136 rfl (by decide) (by decide) ⟨rfl, rfl, rfl, rfl, rfl, hS312, (by (try rw [c4]); (try rw [c315]); (try omega)), (by (try rw [c319]); (try rw [c7]); (try omega)), (by (try rw [c315]); (try rw [c319]); (try rw [c7]); (try omega)), (by (try rw [c4]); (try rw [c10]); (try rw [c315]); (try rw [c324]); (try omega)), trivial⟩
        · skip
          refine q_iconst dX12_readCall_68 (by decide) ?_
          intro v381 h382
          refine tr_goto 81 dX12_readCall_69 (by decide) ?_
          refine tr_istore_n dX12_readCall_81 (by decide) (by decide) ?_
          refine tr_aload_n dX12_readCall_82 rfl ?_
          refine q_callVv hE (M' := mX12_goesOn) (as := []) dX12_readCall_83 lk12_142 inX12_goesOn seX12_goesOn myX12_goesOn (by decide) ⟨by decide, by decide⟩ rfl (kR15 hS26.1 ta0) (Nat.le_of_ble_eq_true rfl) rfl rfl (by decide) (by decide) (k_X12_goesOn hS26.1 ta0) ?_
          rintro cn' K' N' I383 R384 L385 ⟨rfl, rfl, rfl, rfl, g386, p388, p389, p390, p391, -⟩
          have hS392 := hS26.tr g386 (by decide +kernel) (by decide +kernel)
          have c393 : I383 a1 5 = v11 := (g386.cell ta1 (by decide +kernel)).trans c27
          have c394 : I383 a0 13 = v37 := (g386.cell ta0 (by decide +kernel)).trans c38
          obtain ⟨v395, c396⟩ : ∃ v, I383 a0 9 = v := ⟨_, rfl⟩
          have b397 := iv15_9 hS392.1 ta0 c396
          obtain ⟨v398, c399⟩ : ∃ v, I383 a0 8 = v := ⟨_, rfl⟩
          have b400 := iv15_8 hS392.1 ta0 c399
          have p401 := p388
          rw [c29] at p401
          rw [c396] at p401
          rw [c399] at p401
          rw [c33] at p401
          have p402 := p389
          rw [c29] at p402
          rw [c396] at p402
          have p403 := p390
          rw [c399] at p403
          rw [c33] at p403
          have p404 := p391
          rw [c29] at p404
          rw [c396] at p404
          rw [c399] at p404
          rw [c33] at p404
          refine tr_aload_n dX12_readCall_86 rfl ?_
          refine tr_ldcwS dX12_readCall_87 ld12_352 ?_
          refine q_iconst dX12_readCall_90 (by decide) ?_
          intro v405 h406
          refine tr_aload_n dX12_readCall_91 rfl ?_
          refine tr_getR dX12_readCall_92 fl12_188 (kR15 hS392.1 ta0) d2 ?_
          obtain ⟨v407, c408⟩ : ∃ v, I0 a1 0 = v := ⟨_, rfl⟩
          have b409 := iv14_0 hW0 ta1 c408
          refine q_getI dX12_readCall_95 fl12_192 (kR14 hS392.1 ta1) ((hS392.cell ta1 (by decide +kernel)).trans c408) ?_
          refine q_iconst dX12_readCall_98 (by decide) ?_
          intro v410 h411
          refine q_isubE dX12_readCall_99 (by intros; omega) ?_
          intro v412 h413
          refine q_callVi hE (M' := mX12_readPart) (as := [_, _, _]) dX12_readCall_100 lk12_249 inX12_readPart seX12_readPart myX12_readPart (by decide) ⟨by decide, by decide⟩ rfl (kR15 hS392.1 ta0) (Nat.le_of_ble_eq_true rfl) rfl rfl (by decide) (by decide) (k_X12_readPart hS392.1 ta0 (by decide)) ?_
          rintro v418 cn' K' N' I414 R415 L416 ⟨rfl, rfl, rfl, rfl, g417, p419, p420, p421, p422, p423, -⟩
          have hS424 := hS392.tr g417 (by decide +kernel) (by decide +kernel)
          have c425 : I414 a1 5 = v11 := (g417.cell ta1 (by decide +kernel)).trans c393
          obtain ⟨v426, c427⟩ : ∃ v, I414 a0 9 = v := ⟨_, rfl⟩
          have b428 := iv15_9 hS424.1 ta0 c427
          have p429 := p419
          rw [c396] at p429
          rw [c427] at p429
          obtain ⟨v430, c431⟩ : ∃ v, I414 a0 8 = v := ⟨_, rfl⟩
          have b432 := iv15_8 hS424.1 ta0 c431
          have p433 := p420
          rw [c431] at p433
          rw [c399] at p433
          have p434 := p421
          rw [c427] at p434
          rw [c431] at p434
          rw [c399] at p434
          obtain ⟨v435, c436⟩ : ∃ v, I414 a0 13 = v := ⟨_, rfl⟩
          have p437 := p422
          rw [c396] at p437
          rw [c394] at p437
          rw [c427] at p437
          rw [c436] at p437
          have p438 := p423
          refine tr_istore_n dX12_readCall_103 (by decide) (by decide) ?_
          refine tr_aload_n dX12_readCall_104 rfl ?_
          refine tr_ldcwS dX12_readCall_105 ld12_354 ?_
          refine q_iconst dX12_readCall_108 (by decide) ?_
          intro v439 h440
          refine q_bipush dX12_readCall_109 (by decide +kernel) ?_
          intro v441 h442
          refine q_callVi hE (M' := mX12_readPart) (as := [_, _, _]) dX12_readCall_111 lk12_249 inX12_readPart seX12_readPart myX12_readPart (by decide) ⟨by decide, by decide⟩ rfl (kR15 hS424.1 ta0) (Nat.le_of_ble_eq_true rfl) rfl rfl (by decide) (by decide) (k_X12_readPart hS424.1 ta0 (by decide)) ?_
          rintro v447 cn' K' N' I443 R444 L445 ⟨rfl, rfl, rfl, rfl, g446, p448, p449, p450, p451, p452, -⟩
          have hS453 := hS424.tr g446 (by decide +kernel) (by decide +kernel)
          have c454 : I443 a1 5 = v11 := (g446.cell ta1 (by decide +kernel)).trans c425
          obtain ⟨v455, c456⟩ : ∃ v, I443 a0 9 = v := ⟨_, rfl⟩
          have b457 := iv15_9 hS453.1 ta0 c456
          have p458 := p448
          rw [c427] at p458
          rw [c456] at p458
          obtain ⟨v459, c460⟩ : ∃ v, I443 a0 8 = v := ⟨_, rfl⟩
          have b461 := iv15_8 hS453.1 ta0 c460
          have p462 := p449
          rw [c460] at p462
          rw [c431] at p462
          have p463 := p450
          rw [c456] at p463
          rw [c460] at p463
          rw [c431] at p463
          obtain ⟨v464, c465⟩ : ∃ v, I443 a0 13 = v := ⟨_, rfl⟩
          have p466 := p451
          rw [c427] at p466
          rw [c436] at p466
          rw [c456] at p466
          rw [c465] at p466
          have p467 := p452
          refine tr_istore dX12_readCall_114 (by decide) (by decide) ?_
          refine tr_aload_n dX12_readCall_116 rfl ?_
          refine tr_ldcwS dX12_readCall_117 ld12_356 ?_
          refine q_iconst dX12_readCall_120 (by decide) ?_
          intro v468 h469
          refine q_bipush dX12_readCall_121 (by decide +kernel) ?_
          intro v470 h471
          refine q_callVi hE (M' := mX12_readPart) (as := [_, _, _]) dX12_readCall_123 lk12_249 inX12_readPart seX12_readPart myX12_readPart (by decide) ⟨by decide, by decide⟩ rfl (kR15 hS453.1 ta0) (Nat.le_of_ble_eq_true rfl) rfl rfl (by decide) (by decide) (k_X12_readPart hS453.1 ta0 (by decide)) ?_
          rintro v476 cn' K' N' I472 R473 L474 ⟨rfl, rfl, rfl, rfl, g475, p477, p478, p479, p480, p481, -⟩
          have hS482 := hS453.tr g475 (by decide +kernel) (by decide +kernel)
          have c483 : I472 a1 5 = v11 := (g475.cell ta1 (by decide +kernel)).trans c454
          obtain ⟨v484, c485⟩ : ∃ v, I472 a0 9 = v := ⟨_, rfl⟩
          have b486 := iv15_9 hS482.1 ta0 c485
          have p487 := p477
          rw [c456] at p487
          rw [c485] at p487
          obtain ⟨v488, c489⟩ : ∃ v, I472 a0 8 = v := ⟨_, rfl⟩
          have b490 := iv15_8 hS482.1 ta0 c489
          have p491 := p478
          rw [c489] at p491
          rw [c460] at p491
          have p492 := p479
          rw [c485] at p492
          rw [c489] at p492
          rw [c460] at p492
          obtain ⟨v493, c494⟩ : ∃ v, I472 a0 13 = v := ⟨_, rfl⟩
          have p495 := p480
          rw [c456] at p495
          rw [c465] at p495
          rw [c485] at p495
          rw [c494] at p495
          have p496 := p481
          refine tr_istore dX12_readCall_126 (by decide) (by decide) ?_
          refine tr_aload_n dX12_readCall_128 rfl ?_
          refine q_getI dX12_readCall_129 fl12_99 (kR15 hS482.1 ta0) c485 ?_
          refine q_iconst dX12_readCall_132 (by decide) ?_
          intro v497 h498
          refine q_icmp_ne 137 dX12_readCall_133 (by decide) (fun h499 => ?_) (fun h499 => ?_)
          · skip
            exfalso; omega
          · skip
            exact tr_vret hZ dX12_readCall_136 rfl (by decide) (by decide) ⟨rfl, rfl, rfl, rfl, rfl, hS482, (by (try rw [c4]); (try rw [c485]); (try omega)), (by (try rw [c489]); (try rw [c7]); (try omega)), (by (try rw [c485]); (try rw [c489]); (try rw [c7]); (try omega)), (by (try rw [c4]); (try rw [c10]); (try rw [c485]); (try rw [c494]); (try omega)), trivial⟩
      · skip
        refine tr_aload_n dX12_readCall_55 rfl ?_
        refine q_iconst dX12_readCall_56 (by decide) ?_
        intro v500 h501
        refine q_callVv hE (M' := mX12_flaw) (as := [_]) dX12_readCall_57 lk12_145 inX12_flaw seX12_flaw myX12_flaw (by decide) ⟨by decide, by decide⟩ rfl (kR15 hS26.1 ta0) (Nat.le_of_ble_eq_true rfl) rfl rfl (by decide) (by decide) (k_X12_flaw hS26.1 ta0 (by omega)) ?_
        rintro cn' K' N' I502 R503 L504 ⟨rfl, rfl, rfl, rfl, rfl, g505, p507, p508, -⟩
        have hS509 := hS26.tr g505 (by decide +kernel) (by decide +kernel)
        have c510 : I502 a1 5 = v11 := (g505.cell ta1 (by decide +kernel)).trans c27
        have c511 : I502 a0 8 = v32 := (g505.cell ta0 (by decide +kernel)).trans c33
        obtain ⟨v512, c513⟩ : ∃ v, I502 a0 9 = v := ⟨_, rfl⟩
        have b514 := iv15_9 hS509.1 ta0 c513
        have p515 := p507
        rw [c513] at p515
        obtain ⟨v516, c517⟩ : ∃ v, I502 a0 13 = v := ⟨_, rfl⟩
        have p518 := p508
        rw [c29] at p518
        rw [c38] at p518
        rw [c517] at p518
        refine tr_aload_n dX12_readCall_60 rfl ?_
        refine q_getI dX12_readCall_61 fl12_99 (kR15 hS509.1 ta0) c513 ?_
        refine q_iconst dX12_readCall_64 (by decide) ?_
        intro v519 h520
        refine q_icmp_ne 72 dX12_readCall_65 (by decide) (fun h521 => ?_) (fun h521 => ?_)
        · skip
          exfalso; omega
        · skip
          refine q_iconst dX12_readCall_68 (by decide) ?_
          intro v522 h523
          refine tr_goto 81 dX12_readCall_69 (by decide) ?_
          refine tr_istore_n dX12_readCall_81 (by decide) (by decide) ?_
          refine tr_aload_n dX12_readCall_82 rfl ?_
          refine q_callVv hE (M' := mX12_goesOn) (as := []) dX12_readCall_83 lk12_142 inX12_goesOn seX12_goesOn myX12_goesOn (by decide) ⟨by decide, by decide⟩ rfl (kR15 hS509.1 ta0) (Nat.le_of_ble_eq_true rfl) rfl rfl (by decide) (by decide) (k_X12_goesOn hS509.1 ta0) ?_
          rintro cn' K' N' I524 R525 L526 ⟨rfl, rfl, rfl, rfl, g527, p529, p530, p531, p532, -⟩
          have hS533 := hS509.tr g527 (by decide +kernel) (by decide +kernel)
          have c534 : I524 a1 5 = v11 := (g527.cell ta1 (by decide +kernel)).trans c510
          have c535 : I524 a0 13 = v516 := (g527.cell ta0 (by decide +kernel)).trans c517
          obtain ⟨v536, c537⟩ : ∃ v, I524 a0 9 = v := ⟨_, rfl⟩
          have b538 := iv15_9 hS533.1 ta0 c537
          obtain ⟨v539, c540⟩ : ∃ v, I524 a0 8 = v := ⟨_, rfl⟩
          have b541 := iv15_8 hS533.1 ta0 c540
          have p542 := p529
          rw [c513] at p542
          rw [c537] at p542
          rw [c540] at p542
          rw [c511] at p542
          have p543 := p530
          rw [c513] at p543
          rw [c537] at p543
          have p544 := p531
          rw [c540] at p544
          rw [c511] at p544
          have p545 := p532
          rw [c513] at p545
          rw [c537] at p545
          rw [c540] at p545
          rw [c511] at p545
          refine tr_aload_n dX12_readCall_86 rfl ?_
          refine tr_ldcwS dX12_readCall_87 ld12_352 ?_
          refine q_iconst dX12_readCall_90 (by decide) ?_
          intro v546 h547
          refine tr_aload_n dX12_readCall_91 rfl ?_
          refine tr_getR dX12_readCall_92 fl12_188 (kR15 hS533.1 ta0) d2 ?_
          obtain ⟨v548, c549⟩ : ∃ v, I0 a1 0 = v := ⟨_, rfl⟩
          have b550 := iv14_0 hW0 ta1 c549
          refine q_getI dX12_readCall_95 fl12_192 (kR14 hS533.1 ta1) ((hS533.cell ta1 (by decide +kernel)).trans c549) ?_
          refine q_iconst dX12_readCall_98 (by decide) ?_
          intro v551 h552
          refine q_isubE dX12_readCall_99 (by intros; omega) ?_
          intro v553 h554
          refine q_callVi hE (M' := mX12_readPart) (as := [_, _, _]) dX12_readCall_100 lk12_249 inX12_readPart seX12_readPart myX12_readPart (by decide) ⟨by decide, by decide⟩ rfl (kR15 hS533.1 ta0) (Nat.le_of_ble_eq_true rfl) rfl rfl (by decide) (by decide) (k_X12_readPart hS533.1 ta0 (by decide)) ?_
          rintro v559 cn' K' N' I555 R556 L557 ⟨rfl, rfl, rfl, rfl, g558, p560, p561, p562, p563, p564, -⟩
          have hS565 := hS533.tr g558 (by decide +kernel) (by decide +kernel)
          have c566 : I555 a1 5 = v11 := (g558.cell ta1 (by decide +kernel)).trans c534
          obtain ⟨v567, c568⟩ : ∃ v, I555 a0 9 = v := ⟨_, rfl⟩
          have b569 := iv15_9 hS565.1 ta0 c568
          have p570 := p560
          rw [c537] at p570
          rw [c568] at p570
          obtain ⟨v571, c572⟩ : ∃ v, I555 a0 8 = v := ⟨_, rfl⟩
          have b573 := iv15_8 hS565.1 ta0 c572
          have p574 := p561
          rw [c572] at p574
          rw [c540] at p574
          have p575 := p562
          rw [c568] at p575
          rw [c572] at p575
          rw [c540] at p575
          obtain ⟨v576, c577⟩ : ∃ v, I555 a0 13 = v := ⟨_, rfl⟩
          have p578 := p563
          rw [c537] at p578
          rw [c535] at p578
          rw [c568] at p578
          rw [c577] at p578
          have p579 := p564
          refine tr_istore_n dX12_readCall_103 (by decide) (by decide) ?_
          refine tr_aload_n dX12_readCall_104 rfl ?_
          refine tr_ldcwS dX12_readCall_105 ld12_354 ?_
          refine q_iconst dX12_readCall_108 (by decide) ?_
          intro v580 h581
          refine q_bipush dX12_readCall_109 (by decide +kernel) ?_
          intro v582 h583
          refine q_callVi hE (M' := mX12_readPart) (as := [_, _, _]) dX12_readCall_111 lk12_249 inX12_readPart seX12_readPart myX12_readPart (by decide) ⟨by decide, by decide⟩ rfl (kR15 hS565.1 ta0) (Nat.le_of_ble_eq_true rfl) rfl rfl (by decide) (by decide) (k_X12_readPart hS565.1 ta0 (by decide)) ?_
          rintro v588 cn' K' N' I584 R585 L586 ⟨rfl, rfl, rfl, rfl, g587, p589, p590, p591, p592, p593, -⟩
          have hS594 := hS565.tr g587 (by decide +kernel) (by decide +kernel)
          have c595 : I584 a1 5 = v11 := (g587.cell ta1 (by decide +kernel)).trans c566
          obtain ⟨v596, c597⟩ : ∃ v, I584 a0 9 = v := ⟨_, rfl⟩
          have b598 := iv15_9 hS594.1 ta0 c597
          have p599 := p589
          rw [c568] at p599
          rw [c597] at p599
          obtain ⟨v600, c601⟩ : ∃ v, I584 a0 8 = v := ⟨_, rfl⟩
          have b602 := iv15_8 hS594.1 ta0 c601
          have p603 := p590
          rw [c601] at p603
          rw [c572] at p603
          have p604 := p591
          rw [c597] at p604
          rw [c601] at p604
          rw [c572] at p604
          obtain ⟨v605, c606⟩ : ∃ v, I584 a0 13 = v := ⟨_, rfl⟩
          have p607 := p592
          rw [c568] at p607
          rw [c577] at p607
          rw [c597] at p607
          rw [c606] at p607
          have p608 := p593
          refine tr_istore dX12_readCall_114 (by decide) (by decide) ?_
          refine tr_aload_n dX12_readCall_116 rfl ?_
          refine tr_ldcwS dX12_readCall_117 ld12_356 ?_
          refine q_iconst dX12_readCall_120 (by decide) ?_
          intro v609 h610
          refine q_bipush dX12_readCall_121 (by decide +kernel) ?_
          intro v611 h612
          refine q_callVi hE (M' := mX12_readPart) (as := [_, _, _]) dX12_readCall_123 lk12_249 inX12_readPart seX12_readPart myX12_readPart (by decide) ⟨by decide, by decide⟩ rfl (kR15 hS594.1 ta0) (Nat.le_of_ble_eq_true rfl) rfl rfl (by decide) (by decide) (k_X12_readPart hS594.1 ta0 (by decide)) ?_
          rintro v617 cn' K' N' I613 R614 L615 ⟨rfl, rfl, rfl, rfl, g616, p618, p619, p620, p621, p622, -⟩
          have hS623 := hS594.tr g616 (by decide +kernel) (by decide +kernel)
          have c624 : I613 a1 5 = v11 := (g616.cell ta1 (by decide +kernel)).trans c595
          obtain ⟨v625, c626⟩ : ∃ v, I613 a0 9 = v := ⟨_, rfl⟩
          have b627 := iv15_9 hS623.1 ta0 c626
          have p628 := p618
          rw [c597] at p628
          rw [c626] at p628
          obtain ⟨v629, c630⟩ : ∃ v, I613 a0 8 = v := ⟨_, rfl⟩
          have b631 := iv15_8 hS623.1 ta0 c630
          have p632 := p619
          rw [c630] at p632
          rw [c601] at p632
          have p633 := p620
          rw [c626] at p633
          rw [c630] at p633
          rw [c601] at p633
          obtain ⟨v634, c635⟩ : ∃ v, I613 a0 13 = v := ⟨_, rfl⟩
          have p636 := p621
          rw [c597] at p636
          rw [c606] at p636
          rw [c626] at p636
          rw [c635] at p636
          have p637 := p622
          refine tr_istore dX12_readCall_126 (by decide) (by decide) ?_
          refine tr_aload_n dX12_readCall_128 rfl ?_
          refine q_getI dX12_readCall_129 fl12_99 (kR15 hS623.1 ta0) c626 ?_
          refine q_iconst dX12_readCall_132 (by decide) ?_
          intro v638 h639
          refine q_icmp_ne 137 dX12_readCall_133 (by decide) (fun h640 => ?_) (fun h640 => ?_)
          · skip
            exfalso; omega
          · skip
            exact tr_vret hZ dX12_readCall_136 rfl (by decide) (by decide) ⟨rfl, rfl, rfl, rfl, rfl, hS623, (by (try rw [c4]); (try rw [c626]); (try omega)), (by (try rw [c630]); (try rw [c7]); (try omega)), (by (try rw [c626]); (try rw [c630]); (try rw [c7]); (try omega)), (by (try rw [c4]); (try rw [c10]); (try rw [c626]); (try rw [c635]); (try omega)), trivial⟩
  · skip
    refine tr_aload_n dX12_readCall_20 rfl ?_
    refine q_iconst dX12_readCall_21 (by decide) ?_
    intro v641 h642
    refine q_callVv hE (M' := mX12_flaw) (as := [_]) dX12_readCall_22 lk12_145 inX12_flaw seX12_flaw myX12_flaw (by decide) ⟨by decide, by decide⟩ rfl (kR15 hS26.1 ta0) (Nat.le_of_ble_eq_true rfl) rfl rfl (by decide) (by decide) (k_X12_flaw hS26.1 ta0 (by omega)) ?_
    rintro cn' K' N' I643 R644 L645 ⟨rfl, rfl, rfl, rfl, rfl, g646, p648, p649, -⟩
    have hS650 := hS26.tr g646 (by decide +kernel) (by decide +kernel)
    have c651 : I643 a1 5 = v11 := (g646.cell ta1 (by decide +kernel)).trans c27
    have c652 : I643 a0 8 = v32 := (g646.cell ta0 (by decide +kernel)).trans c33
    obtain ⟨v653, c654⟩ : ∃ v, I643 a0 9 = v := ⟨_, rfl⟩
    have b655 := iv15_9 hS650.1 ta0 c654
    have p656 := p648
    rw [c654] at p656
    obtain ⟨v657, c658⟩ : ∃ v, I643 a0 13 = v := ⟨_, rfl⟩
    have p659 := p649
    rw [c29] at p659
    rw [c38] at p659
    rw [c658] at p659
    refine tr_aload_n dX12_readCall_25 rfl ?_
    refine tr_getR dX12_readCall_26 fl12_188 (kR15 hS650.1 ta0) d2 ?_
    refine tr_aload_n dX12_readCall_29 rfl ?_
    refine q_getL dX12_readCall_30 fl12_118 (kR15 hS650.1 ta0) ?_
    intro y660
    refine q_callVi hE (M' := mX11_find) (as := [_]) dX12_readCall_33 lk12_201 inX11_find seX11_find myX11_find (by decide) ⟨by decide, by decide⟩ rfl (kR14 hS650.1 ta1) (Nat.le_of_ble_eq_true rfl) rfl rfl (by decide) (by decide) (k_X11_find hS650.1 ta1) ?_
    rintro v665 cn' K' N' I661 R662 L663 ⟨rfl, rfl, rfl, rfl, rfl, rfl, h666, -⟩
    refine tr_istore_n dX12_readCall_36 (by decide) (by decide) ?_
    refine tr_iload_n dX12_readCall_37 rfl ?_
    refine q_iconst dX12_readCall_38 (by decide) ?_
    intro v667 h668
    refine q_icmp_eq 55 dX12_readCall_39 (by decide) (fun h669 => ?_) (fun h669 => ?_)
    · skip
      refine tr_aload_n dX12_readCall_55 rfl ?_
      refine q_iconst dX12_readCall_56 (by decide) ?_
      intro v670 h671
      refine q_callVv hE (M' := mX12_flaw) (as := [_]) dX12_readCall_57 lk12_145 inX12_flaw seX12_flaw myX12_flaw (by decide) ⟨by decide, by decide⟩ rfl (kR15 hS650.1 ta0) (Nat.le_of_ble_eq_true rfl) rfl rfl (by decide) (by decide) (k_X12_flaw hS650.1 ta0 (by omega)) ?_
      rintro cn' K' N' I672 R673 L674 ⟨rfl, rfl, rfl, rfl, rfl, g675, p677, p678, -⟩
      have hS679 := hS650.tr g675 (by decide +kernel) (by decide +kernel)
      have c680 : I672 a1 5 = v11 := (g675.cell ta1 (by decide +kernel)).trans c651
      have c681 : I672 a0 8 = v32 := (g675.cell ta0 (by decide +kernel)).trans c652
      obtain ⟨v682, c683⟩ : ∃ v, I672 a0 9 = v := ⟨_, rfl⟩
      have b684 := iv15_9 hS679.1 ta0 c683
      have p685 := p677
      rw [c683] at p685
      obtain ⟨v686, c687⟩ : ∃ v, I672 a0 13 = v := ⟨_, rfl⟩
      have p688 := p678
      rw [c654] at p688
      rw [c658] at p688
      rw [c687] at p688
      refine tr_aload_n dX12_readCall_60 rfl ?_
      refine q_getI dX12_readCall_61 fl12_99 (kR15 hS679.1 ta0) c683 ?_
      refine q_iconst dX12_readCall_64 (by decide) ?_
      intro v689 h690
      refine q_icmp_ne 72 dX12_readCall_65 (by decide) (fun h691 => ?_) (fun h691 => ?_)
      · skip
        exfalso; omega
      · skip
        refine q_iconst dX12_readCall_68 (by decide) ?_
        intro v692 h693
        refine tr_goto 81 dX12_readCall_69 (by decide) ?_
        refine tr_istore_n dX12_readCall_81 (by decide) (by decide) ?_
        refine tr_aload_n dX12_readCall_82 rfl ?_
        refine q_callVv hE (M' := mX12_goesOn) (as := []) dX12_readCall_83 lk12_142 inX12_goesOn seX12_goesOn myX12_goesOn (by decide) ⟨by decide, by decide⟩ rfl (kR15 hS679.1 ta0) (Nat.le_of_ble_eq_true rfl) rfl rfl (by decide) (by decide) (k_X12_goesOn hS679.1 ta0) ?_
        rintro cn' K' N' I694 R695 L696 ⟨rfl, rfl, rfl, rfl, g697, p699, p700, p701, p702, -⟩
        have hS703 := hS679.tr g697 (by decide +kernel) (by decide +kernel)
        have c704 : I694 a1 5 = v11 := (g697.cell ta1 (by decide +kernel)).trans c680
        have c705 : I694 a0 13 = v686 := (g697.cell ta0 (by decide +kernel)).trans c687
        obtain ⟨v706, c707⟩ : ∃ v, I694 a0 9 = v := ⟨_, rfl⟩
        have b708 := iv15_9 hS703.1 ta0 c707
        obtain ⟨v709, c710⟩ : ∃ v, I694 a0 8 = v := ⟨_, rfl⟩
        have b711 := iv15_8 hS703.1 ta0 c710
        have p712 := p699
        rw [c683] at p712
        rw [c707] at p712
        rw [c710] at p712
        rw [c681] at p712
        have p713 := p700
        rw [c683] at p713
        rw [c707] at p713
        have p714 := p701
        rw [c710] at p714
        rw [c681] at p714
        have p715 := p702
        rw [c683] at p715
        rw [c707] at p715
        rw [c710] at p715
        rw [c681] at p715
        refine tr_aload_n dX12_readCall_86 rfl ?_
        refine tr_ldcwS dX12_readCall_87 ld12_352 ?_
        refine q_iconst dX12_readCall_90 (by decide) ?_
        intro v716 h717
        refine tr_aload_n dX12_readCall_91 rfl ?_
        refine tr_getR dX12_readCall_92 fl12_188 (kR15 hS703.1 ta0) d2 ?_
        obtain ⟨v718, c719⟩ : ∃ v, I0 a1 0 = v := ⟨_, rfl⟩
        have b720 := iv14_0 hW0 ta1 c719
        refine q_getI dX12_readCall_95 fl12_192 (kR14 hS703.1 ta1) ((hS703.cell ta1 (by decide +kernel)).trans c719) ?_
        refine q_iconst dX12_readCall_98 (by decide) ?_
        intro v721 h722
        refine q_isubE dX12_readCall_99 (by intros; omega) ?_
        intro v723 h724
        refine q_callVi hE (M' := mX12_readPart) (as := [_, _, _]) dX12_readCall_100 lk12_249 inX12_readPart seX12_readPart myX12_readPart (by decide) ⟨by decide, by decide⟩ rfl (kR15 hS703.1 ta0) (Nat.le_of_ble_eq_true rfl) rfl rfl (by decide) (by decide) (k_X12_readPart hS703.1 ta0 (by decide)) ?_
        rintro v729 cn' K' N' I725 R726 L727 ⟨rfl, rfl, rfl, rfl, g728, p730, p731, p732, p733, p734, -⟩
        have hS735 := hS703.tr g728 (by decide +kernel) (by decide +kernel)
        have c736 : I725 a1 5 = v11 := (g728.cell ta1 (by decide +kernel)).trans c704
        obtain ⟨v737, c738⟩ : ∃ v, I725 a0 9 = v := ⟨_, rfl⟩
        have b739 := iv15_9 hS735.1 ta0 c738
        have p740 := p730
        rw [c707] at p740
        rw [c738] at p740
        obtain ⟨v741, c742⟩ : ∃ v, I725 a0 8 = v := ⟨_, rfl⟩
        have b743 := iv15_8 hS735.1 ta0 c742
        have p744 := p731
        rw [c742] at p744
        rw [c710] at p744
        have p745 := p732
        rw [c738] at p745
        rw [c742] at p745
        rw [c710] at p745
        obtain ⟨v746, c747⟩ : ∃ v, I725 a0 13 = v := ⟨_, rfl⟩
        have p748 := p733
        rw [c707] at p748
        rw [c705] at p748
        rw [c738] at p748
        rw [c747] at p748
        have p749 := p734
        refine tr_istore_n dX12_readCall_103 (by decide) (by decide) ?_
        refine tr_aload_n dX12_readCall_104 rfl ?_
        refine tr_ldcwS dX12_readCall_105 ld12_354 ?_
        refine q_iconst dX12_readCall_108 (by decide) ?_
        intro v750 h751
        refine q_bipush dX12_readCall_109 (by decide +kernel) ?_
        intro v752 h753
        refine q_callVi hE (M' := mX12_readPart) (as := [_, _, _]) dX12_readCall_111 lk12_249 inX12_readPart seX12_readPart myX12_readPart (by decide) ⟨by decide, by decide⟩ rfl (kR15 hS735.1 ta0) (Nat.le_of_ble_eq_true rfl) rfl rfl (by decide) (by decide) (k_X12_readPart hS735.1 ta0 (by decide)) ?_
        rintro v758 cn' K' N' I754 R755 L756 ⟨rfl, rfl, rfl, rfl, g757, p759, p760, p761, p762, p763, -⟩
        have hS764 := hS735.tr g757 (by decide +kernel) (by decide +kernel)
        have c765 : I754 a1 5 = v11 := (g757.cell ta1 (by decide +kernel)).trans c736
        obtain ⟨v766, c767⟩ : ∃ v, I754 a0 9 = v := ⟨_, rfl⟩
        have b768 := iv15_9 hS764.1 ta0 c767
        have p769 := p759
        rw [c738] at p769
        rw [c767] at p769
        obtain ⟨v770, c771⟩ : ∃ v, I754 a0 8 = v := ⟨_, rfl⟩
        have b772 := iv15_8 hS764.1 ta0 c771
        have p773 := p760
        rw [c771] at p773
        rw [c742] at p773
        have p774 := p761
        rw [c767] at p774
        rw [c771] at p774
        rw [c742] at p774
        obtain ⟨v775, c776⟩ : ∃ v, I754 a0 13 = v := ⟨_, rfl⟩
        have p777 := p762
        rw [c738] at p777
        rw [c747] at p777
        rw [c767] at p777
        rw [c776] at p777
        have p778 := p763
        refine tr_istore dX12_readCall_114 (by decide) (by decide) ?_
        refine tr_aload_n dX12_readCall_116 rfl ?_
        refine tr_ldcwS dX12_readCall_117 ld12_356 ?_
        refine q_iconst dX12_readCall_120 (by decide) ?_
        intro v779 h780
        refine q_bipush dX12_readCall_121 (by decide +kernel) ?_
        intro v781 h782
        refine q_callVi hE (M' := mX12_readPart) (as := [_, _, _]) dX12_readCall_123 lk12_249 inX12_readPart seX12_readPart myX12_readPart (by decide) ⟨by decide, by decide⟩ rfl (kR15 hS764.1 ta0) (Nat.le_of_ble_eq_true rfl) rfl rfl (by decide) (by decide) (k_X12_readPart hS764.1 ta0 (by decide)) ?_
        rintro v787 cn' K' N' I783 R784 L785 ⟨rfl, rfl, rfl, rfl, g786, p788, p789, p790, p791, p792, -⟩
        have hS793 := hS764.tr g786 (by decide +kernel) (by decide +kernel)
        have c794 : I783 a1 5 = v11 := (g786.cell ta1 (by decide +kernel)).trans c765
        obtain ⟨v795, c796⟩ : ∃ v, I783 a0 9 = v := ⟨_, rfl⟩
        have b797 := iv15_9 hS793.1 ta0 c796
        have p798 := p788
        rw [c767] at p798
        rw [c796] at p798
        obtain ⟨v799, c800⟩ : ∃ v, I783 a0 8 = v := ⟨_, rfl⟩
        have b801 := iv15_8 hS793.1 ta0 c800
        have p802 := p789
        rw [c800] at p802
        rw [c771] at p802
        have p803 := p790
        rw [c796] at p803
        rw [c800] at p803
        rw [c771] at p803
        obtain ⟨v804, c805⟩ : ∃ v, I783 a0 13 = v := ⟨_, rfl⟩
        have p806 := p791
        rw [c767] at p806
        rw [c776] at p806
        rw [c796] at p806
        rw [c805] at p806
        have p807 := p792
        refine tr_istore dX12_readCall_126 (by decide) (by decide) ?_
        refine tr_aload_n dX12_readCall_128 rfl ?_
        refine q_getI dX12_readCall_129 fl12_99 (kR15 hS793.1 ta0) c796 ?_
        refine q_iconst dX12_readCall_132 (by decide) ?_
        intro v808 h809
        refine q_icmp_ne 137 dX12_readCall_133 (by decide) (fun h810 => ?_) (fun h810 => ?_)
        · skip
          exfalso; omega
        · skip
          exact tr_vret hZ dX12_readCall_136 rfl (by decide) (by decide) ⟨rfl, rfl, rfl, rfl, rfl, hS793, (by (try rw [c4]); (try rw [c796]); (try omega)), (by (try rw [c800]); (try rw [c7]); (try omega)), (by (try rw [c796]); (try rw [c800]); (try rw [c7]); (try omega)), (by (try rw [c4]); (try rw [c10]); (try rw [c796]); (try rw [c805]); (try omega)), trivial⟩
    · skip
      refine tr_aload_n dX12_readCall_42 rfl ?_
      refine tr_getR dX12_readCall_43 fl12_188 (kR15 hS650.1 ta0) d2 ?_
      obtain ⟨a811, d812, ta811⟩ := rf14_31 hW0 ta1
      refine tr_getR dX12_readCall_46 fl12_212 (kR14 hS650.1 ta1) d812 ?_
      refine tr_iload_n dX12_readCall_49 rfl ?_
      refine q_iald dX12_readCall_50 (kR74 hS650.1 ta811) (ti_in (nR74 hS650.1 ta811) (by omega) (by omega)) ?_
      intro v813 c814
      refine q_iconst dX12_readCall_51 (by decide) ?_
      intro v815 h816
      refine q_icmp_eq 60 dX12_readCall_52 (by decide) (fun h817 => ?_) (fun h817 => ?_)
      · skip
        refine tr_aload_n dX12_readCall_60 rfl ?_
        refine q_getI dX12_readCall_61 fl12_99 (kR15 hS650.1 ta0) c654 ?_
        refine q_iconst dX12_readCall_64 (by decide) ?_
        intro v818 h819
        refine q_icmp_ne 72 dX12_readCall_65 (by decide) (fun h820 => ?_) (fun h820 => ?_)
        · skip
          exfalso; omega
        · skip
          refine q_iconst dX12_readCall_68 (by decide) ?_
          intro v821 h822
          refine tr_goto 81 dX12_readCall_69 (by decide) ?_
          refine tr_istore_n dX12_readCall_81 (by decide) (by decide) ?_
          refine tr_aload_n dX12_readCall_82 rfl ?_
          refine q_callVv hE (M' := mX12_goesOn) (as := []) dX12_readCall_83 lk12_142 inX12_goesOn seX12_goesOn myX12_goesOn (by decide) ⟨by decide, by decide⟩ rfl (kR15 hS650.1 ta0) (Nat.le_of_ble_eq_true rfl) rfl rfl (by decide) (by decide) (k_X12_goesOn hS650.1 ta0) ?_
          rintro cn' K' N' I823 R824 L825 ⟨rfl, rfl, rfl, rfl, g826, p828, p829, p830, p831, -⟩
          have hS832 := hS650.tr g826 (by decide +kernel) (by decide +kernel)
          have c833 : I823 a1 5 = v11 := (g826.cell ta1 (by decide +kernel)).trans c651
          have c834 : I823 a0 13 = v657 := (g826.cell ta0 (by decide +kernel)).trans c658
          obtain ⟨v835, c836⟩ : ∃ v, I823 a0 9 = v := ⟨_, rfl⟩
          have b837 := iv15_9 hS832.1 ta0 c836
          obtain ⟨v838, c839⟩ : ∃ v, I823 a0 8 = v := ⟨_, rfl⟩
          have b840 := iv15_8 hS832.1 ta0 c839
          have p841 := p828
          rw [c654] at p841
          rw [c836] at p841
          rw [c839] at p841
          rw [c652] at p841
          have p842 := p829
          rw [c654] at p842
          rw [c836] at p842
          have p843 := p830
          rw [c839] at p843
          rw [c652] at p843
          have p844 := p831
          rw [c654] at p844
          rw [c836] at p844
          rw [c839] at p844
          rw [c652] at p844
          refine tr_aload_n dX12_readCall_86 rfl ?_
          refine tr_ldcwS dX12_readCall_87 ld12_352 ?_
          refine q_iconst dX12_readCall_90 (by decide) ?_
          intro v845 h846
          refine tr_aload_n dX12_readCall_91 rfl ?_
          refine tr_getR dX12_readCall_92 fl12_188 (kR15 hS832.1 ta0) d2 ?_
          obtain ⟨v847, c848⟩ : ∃ v, I0 a1 0 = v := ⟨_, rfl⟩
          have b849 := iv14_0 hW0 ta1 c848
          refine q_getI dX12_readCall_95 fl12_192 (kR14 hS832.1 ta1) ((hS832.cell ta1 (by decide +kernel)).trans c848) ?_
          refine q_iconst dX12_readCall_98 (by decide) ?_
          intro v850 h851
          refine q_isubE dX12_readCall_99 (by intros; omega) ?_
          intro v852 h853
          refine q_callVi hE (M' := mX12_readPart) (as := [_, _, _]) dX12_readCall_100 lk12_249 inX12_readPart seX12_readPart myX12_readPart (by decide) ⟨by decide, by decide⟩ rfl (kR15 hS832.1 ta0) (Nat.le_of_ble_eq_true rfl) rfl rfl (by decide) (by decide) (k_X12_readPart hS832.1 ta0 (by decide)) ?_
          rintro v858 cn' K' N' I854 R855 L856 ⟨rfl, rfl, rfl, rfl, g857, p859, p860, p861, p862, p863, -⟩
          have hS864 := hS832.tr g857 (by decide +kernel) (by decide +kernel)
          have c865 : I854 a1 5 = v11 := (g857.cell ta1 (by decide +kernel)).trans c833
          obtain ⟨v866, c867⟩ : ∃ v, I854 a0 9 = v := ⟨_, rfl⟩
          have b868 := iv15_9 hS864.1 ta0 c867
          have p869 := p859
          rw [c836] at p869
          rw [c867] at p869
          obtain ⟨v870, c871⟩ : ∃ v, I854 a0 8 = v := ⟨_, rfl⟩
          have b872 := iv15_8 hS864.1 ta0 c871
          have p873 := p860
          rw [c871] at p873
          rw [c839] at p873
          have p874 := p861
          rw [c867] at p874
          rw [c871] at p874
          rw [c839] at p874
          obtain ⟨v875, c876⟩ : ∃ v, I854 a0 13 = v := ⟨_, rfl⟩
          have p877 := p862
          rw [c836] at p877
          rw [c834] at p877
          rw [c867] at p877
          rw [c876] at p877
          have p878 := p863
          refine tr_istore_n dX12_readCall_103 (by decide) (by decide) ?_
          refine tr_aload_n dX12_readCall_104 rfl ?_
          refine tr_ldcwS dX12_readCall_105 ld12_354 ?_
          refine q_iconst dX12_readCall_108 (by decide) ?_
          intro v879 h880
          refine q_bipush dX12_readCall_109 (by decide +kernel) ?_
          intro v881 h882
          refine q_callVi hE (M' := mX12_readPart) (as := [_, _, _]) dX12_readCall_111 lk12_249 inX12_readPart seX12_readPart myX12_readPart (by decide) ⟨by decide, by decide⟩ rfl (kR15 hS864.1 ta0) (Nat.le_of_ble_eq_true rfl) rfl rfl (by decide) (by decide) (k_X12_readPart hS864.1 ta0 (by decide)) ?_
          rintro v887 cn' K' N' I883 R884 L885 ⟨rfl, rfl, rfl, rfl, g886, p888, p889, p890, p891, p892, -⟩
          have hS893 := hS864.tr g886 (by decide +kernel) (by decide +kernel)
          have c894 : I883 a1 5 = v11 := (g886.cell ta1 (by decide +kernel)).trans c865
          obtain ⟨v895, c896⟩ : ∃ v, I883 a0 9 = v := ⟨_, rfl⟩
          have b897 := iv15_9 hS893.1 ta0 c896
          have p898 := p888
          rw [c867] at p898
          rw [c896] at p898
          obtain ⟨v899, c900⟩ : ∃ v, I883 a0 8 = v := ⟨_, rfl⟩
          have b901 := iv15_8 hS893.1 ta0 c900
          have p902 := p889
          rw [c900] at p902
          rw [c871] at p902
          have p903 := p890
          rw [c896] at p903
          rw [c900] at p903
          rw [c871] at p903
          obtain ⟨v904, c905⟩ : ∃ v, I883 a0 13 = v := ⟨_, rfl⟩
          have p906 := p891
          rw [c867] at p906
          rw [c876] at p906
          rw [c896] at p906
          rw [c905] at p906
          have p907 := p892
          refine tr_istore dX12_readCall_114 (by decide) (by decide) ?_
          refine tr_aload_n dX12_readCall_116 rfl ?_
          refine tr_ldcwS dX12_readCall_117 ld12_356 ?_
          refine q_iconst dX12_readCall_120 (by decide) ?_
          intro v908 h909
          refine q_bipush dX12_readCall_121 (by decide +kernel) ?_
          intro v910 h911
          refine q_callVi hE (M' := mX12_readPart) (as := [_, _, _]) dX12_readCall_123 lk12_249 inX12_readPart seX12_readPart myX12_readPart (by decide) ⟨by decide, by decide⟩ rfl (kR15 hS893.1 ta0) (Nat.le_of_ble_eq_true rfl) rfl rfl (by decide) (by decide) (k_X12_readPart hS893.1 ta0 (by decide)) ?_
          rintro v916 cn' K' N' I912 R913 L914 ⟨rfl, rfl, rfl, rfl, g915, p917, p918, p919, p920, p921, -⟩
          have hS922 := hS893.tr g915 (by decide +kernel) (by decide +kernel)
          have c923 : I912 a1 5 = v11 := (g915.cell ta1 (by decide +kernel)).trans c894
          obtain ⟨v924, c925⟩ : ∃ v, I912 a0 9 = v := ⟨_, rfl⟩
          have b926 := iv15_9 hS922.1 ta0 c925
          have p927 := p917
          rw [c896] at p927
          rw [c925] at p927
          obtain ⟨v928, c929⟩ : ∃ v, I912 a0 8 = v := ⟨_, rfl⟩
          have b930 := iv15_8 hS922.1 ta0 c929
          have p931 := p918
          rw [c929] at p931
          rw [c900] at p931
          have p932 := p919
          rw [c925] at p932
          rw [c929] at p932
          rw [c900] at p932
          obtain ⟨v933, c934⟩ : ∃ v, I912 a0 13 = v := ⟨_, rfl⟩
          have p935 := p920
          rw [c896] at p935
          rw [c905] at p935
          rw [c925] at p935
          rw [c934] at p935
          have p936 := p921
          refine tr_istore dX12_readCall_126 (by decide) (by decide) ?_
          refine tr_aload_n dX12_readCall_128 rfl ?_
          refine q_getI dX12_readCall_129 fl12_99 (kR15 hS922.1 ta0) c925 ?_
          refine q_iconst dX12_readCall_132 (by decide) ?_
          intro v937 h938
          refine q_icmp_ne 137 dX12_readCall_133 (by decide) (fun h939 => ?_) (fun h939 => ?_)
          · skip
            exfalso; omega
          · skip
            exact tr_vret hZ dX12_readCall_136 rfl (by decide) (by decide) ⟨rfl, rfl, rfl, rfl, rfl, hS922, (by (try rw [c4]); (try rw [c925]); (try omega)), (by (try rw [c929]); (try rw [c7]); (try omega)), (by (try rw [c925]); (try rw [c929]); (try rw [c7]); (try omega)), (by (try rw [c4]); (try rw [c10]); (try rw [c925]); (try rw [c934]); (try omega)), trivial⟩
      · skip
        refine tr_aload_n dX12_readCall_55 rfl ?_
        refine q_iconst dX12_readCall_56 (by decide) ?_
        intro v940 h941
        refine q_callVv hE (M' := mX12_flaw) (as := [_]) dX12_readCall_57 lk12_145 inX12_flaw seX12_flaw myX12_flaw (by decide) ⟨by decide, by decide⟩ rfl (kR15 hS650.1 ta0) (Nat.le_of_ble_eq_true rfl) rfl rfl (by decide) (by decide) (k_X12_flaw hS650.1 ta0 (by omega)) ?_
        rintro cn' K' N' I942 R943 L944 ⟨rfl, rfl, rfl, rfl, rfl, g945, p947, p948, -⟩
        have hS949 := hS650.tr g945 (by decide +kernel) (by decide +kernel)
        have c950 : I942 a1 5 = v11 := (g945.cell ta1 (by decide +kernel)).trans c651
        have c951 : I942 a0 8 = v32 := (g945.cell ta0 (by decide +kernel)).trans c652
        obtain ⟨v952, c953⟩ : ∃ v, I942 a0 9 = v := ⟨_, rfl⟩
        have b954 := iv15_9 hS949.1 ta0 c953
        have p955 := p947
        rw [c953] at p955
        obtain ⟨v956, c957⟩ : ∃ v, I942 a0 13 = v := ⟨_, rfl⟩
        have p958 := p948
        rw [c654] at p958
        rw [c658] at p958
        rw [c957] at p958
        refine tr_aload_n dX12_readCall_60 rfl ?_
        refine q_getI dX12_readCall_61 fl12_99 (kR15 hS949.1 ta0) c953 ?_
        refine q_iconst dX12_readCall_64 (by decide) ?_
        intro v959 h960
        refine q_icmp_ne 72 dX12_readCall_65 (by decide) (fun h961 => ?_) (fun h961 => ?_)
        · skip
          exfalso; omega
        · skip
          refine q_iconst dX12_readCall_68 (by decide) ?_
          intro v962 h963
          refine tr_goto 81 dX12_readCall_69 (by decide) ?_
          refine tr_istore_n dX12_readCall_81 (by decide) (by decide) ?_
          refine tr_aload_n dX12_readCall_82 rfl ?_
          refine q_callVv hE (M' := mX12_goesOn) (as := []) dX12_readCall_83 lk12_142 inX12_goesOn seX12_goesOn myX12_goesOn (by decide) ⟨by decide, by decide⟩ rfl (kR15 hS949.1 ta0) (Nat.le_of_ble_eq_true rfl) rfl rfl (by decide) (by decide) (k_X12_goesOn hS949.1 ta0) ?_
          rintro cn' K' N' I964 R965 L966 ⟨rfl, rfl, rfl, rfl, g967, p969, p970, p971, p972, -⟩
          have hS973 := hS949.tr g967 (by decide +kernel) (by decide +kernel)
          have c974 : I964 a1 5 = v11 := (g967.cell ta1 (by decide +kernel)).trans c950
          have c975 : I964 a0 13 = v956 := (g967.cell ta0 (by decide +kernel)).trans c957
          obtain ⟨v976, c977⟩ : ∃ v, I964 a0 9 = v := ⟨_, rfl⟩
          have b978 := iv15_9 hS973.1 ta0 c977
          obtain ⟨v979, c980⟩ : ∃ v, I964 a0 8 = v := ⟨_, rfl⟩
          have b981 := iv15_8 hS973.1 ta0 c980
          have p982 := p969
          rw [c953] at p982
          rw [c977] at p982
          rw [c980] at p982
          rw [c951] at p982
          have p983 := p970
          rw [c953] at p983
          rw [c977] at p983
          have p984 := p971
          rw [c980] at p984
          rw [c951] at p984
          have p985 := p972
          rw [c953] at p985
          rw [c977] at p985
          rw [c980] at p985
          rw [c951] at p985
          refine tr_aload_n dX12_readCall_86 rfl ?_
          refine tr_ldcwS dX12_readCall_87 ld12_352 ?_
          refine q_iconst dX12_readCall_90 (by decide) ?_
          intro v986 h987
          refine tr_aload_n dX12_readCall_91 rfl ?_
          refine tr_getR dX12_readCall_92 fl12_188 (kR15 hS973.1 ta0) d2 ?_
          obtain ⟨v988, c989⟩ : ∃ v, I0 a1 0 = v := ⟨_, rfl⟩
          have b990 := iv14_0 hW0 ta1 c989
          refine q_getI dX12_readCall_95 fl12_192 (kR14 hS973.1 ta1) ((hS973.cell ta1 (by decide +kernel)).trans c989) ?_
          refine q_iconst dX12_readCall_98 (by decide) ?_
          intro v991 h992
          refine q_isubE dX12_readCall_99 (by intros; omega) ?_
          intro v993 h994
          refine q_callVi hE (M' := mX12_readPart) (as := [_, _, _]) dX12_readCall_100 lk12_249 inX12_readPart seX12_readPart myX12_readPart (by decide) ⟨by decide, by decide⟩ rfl (kR15 hS973.1 ta0) (Nat.le_of_ble_eq_true rfl) rfl rfl (by decide) (by decide) (k_X12_readPart hS973.1 ta0 (by decide)) ?_
          rintro v999 cn' K' N' I995 R996 L997 ⟨rfl, rfl, rfl, rfl, g998, p1000, p1001, p1002, p1003, p1004, -⟩
          have hS1005 := hS973.tr g998 (by decide +kernel) (by decide +kernel)
          have c1006 : I995 a1 5 = v11 := (g998.cell ta1 (by decide +kernel)).trans c974
          obtain ⟨v1007, c1008⟩ : ∃ v, I995 a0 9 = v := ⟨_, rfl⟩
          have b1009 := iv15_9 hS1005.1 ta0 c1008
          have p1010 := p1000
          rw [c977] at p1010
          rw [c1008] at p1010
          obtain ⟨v1011, c1012⟩ : ∃ v, I995 a0 8 = v := ⟨_, rfl⟩
          have b1013 := iv15_8 hS1005.1 ta0 c1012
          have p1014 := p1001
          rw [c1012] at p1014
          rw [c980] at p1014
          have p1015 := p1002
          rw [c1008] at p1015
          rw [c1012] at p1015
          rw [c980] at p1015
          obtain ⟨v1016, c1017⟩ : ∃ v, I995 a0 13 = v := ⟨_, rfl⟩
          have p1018 := p1003
          rw [c977] at p1018
          rw [c975] at p1018
          rw [c1008] at p1018
          rw [c1017] at p1018
          have p1019 := p1004
          refine tr_istore_n dX12_readCall_103 (by decide) (by decide) ?_
          refine tr_aload_n dX12_readCall_104 rfl ?_
          refine tr_ldcwS dX12_readCall_105 ld12_354 ?_
          refine q_iconst dX12_readCall_108 (by decide) ?_
          intro v1020 h1021
          refine q_bipush dX12_readCall_109 (by decide +kernel) ?_
          intro v1022 h1023
          refine q_callVi hE (M' := mX12_readPart) (as := [_, _, _]) dX12_readCall_111 lk12_249 inX12_readPart seX12_readPart myX12_readPart (by decide) ⟨by decide, by decide⟩ rfl (kR15 hS1005.1 ta0) (Nat.le_of_ble_eq_true rfl) rfl rfl (by decide) (by decide) (k_X12_readPart hS1005.1 ta0 (by decide)) ?_
          rintro v1028 cn' K' N' I1024 R1025 L1026 ⟨rfl, rfl, rfl, rfl, g1027, p1029, p1030, p1031, p1032, p1033, -⟩
          have hS1034 := hS1005.tr g1027 (by decide +kernel) (by decide +kernel)
          have c1035 : I1024 a1 5 = v11 := (g1027.cell ta1 (by decide +kernel)).trans c1006
          obtain ⟨v1036, c1037⟩ : ∃ v, I1024 a0 9 = v := ⟨_, rfl⟩
          have b1038 := iv15_9 hS1034.1 ta0 c1037
          have p1039 := p1029
          rw [c1008] at p1039
          rw [c1037] at p1039
          obtain ⟨v1040, c1041⟩ : ∃ v, I1024 a0 8 = v := ⟨_, rfl⟩
          have b1042 := iv15_8 hS1034.1 ta0 c1041
          have p1043 := p1030
          rw [c1041] at p1043
          rw [c1012] at p1043
          have p1044 := p1031
          rw [c1037] at p1044
          rw [c1041] at p1044
          rw [c1012] at p1044
          obtain ⟨v1045, c1046⟩ : ∃ v, I1024 a0 13 = v := ⟨_, rfl⟩
          have p1047 := p1032
          rw [c1008] at p1047
          rw [c1017] at p1047
          rw [c1037] at p1047
          rw [c1046] at p1047
          have p1048 := p1033
          refine tr_istore dX12_readCall_114 (by decide) (by decide) ?_
          refine tr_aload_n dX12_readCall_116 rfl ?_
          refine tr_ldcwS dX12_readCall_117 ld12_356 ?_
          refine q_iconst dX12_readCall_120 (by decide) ?_
          intro v1049 h1050
          refine q_bipush dX12_readCall_121 (by decide +kernel) ?_
          intro v1051 h1052
          refine q_callVi hE (M' := mX12_readPart) (as := [_, _, _]) dX12_readCall_123 lk12_249 inX12_readPart seX12_readPart myX12_readPart (by decide) ⟨by decide, by decide⟩ rfl (kR15 hS1034.1 ta0) (Nat.le_of_ble_eq_true rfl) rfl rfl (by decide) (by decide) (k_X12_readPart hS1034.1 ta0 (by decide)) ?_
          rintro v1057 cn' K' N' I1053 R1054 L1055 ⟨rfl, rfl, rfl, rfl, g1056, p1058, p1059, p1060, p1061, p1062, -⟩
          have hS1063 := hS1034.tr g1056 (by decide +kernel) (by decide +kernel)
          have c1064 : I1053 a1 5 = v11 := (g1056.cell ta1 (by decide +kernel)).trans c1035
          obtain ⟨v1065, c1066⟩ : ∃ v, I1053 a0 9 = v := ⟨_, rfl⟩
          have b1067 := iv15_9 hS1063.1 ta0 c1066
          have p1068 := p1058
          rw [c1037] at p1068
          rw [c1066] at p1068
          obtain ⟨v1069, c1070⟩ : ∃ v, I1053 a0 8 = v := ⟨_, rfl⟩
          have b1071 := iv15_8 hS1063.1 ta0 c1070
          have p1072 := p1059
          rw [c1070] at p1072
          rw [c1041] at p1072
          have p1073 := p1060
          rw [c1066] at p1073
          rw [c1070] at p1073
          rw [c1041] at p1073
          obtain ⟨v1074, c1075⟩ : ∃ v, I1053 a0 13 = v := ⟨_, rfl⟩
          have p1076 := p1061
          rw [c1037] at p1076
          rw [c1046] at p1076
          rw [c1066] at p1076
          rw [c1075] at p1076
          have p1077 := p1062
          refine tr_istore dX12_readCall_126 (by decide) (by decide) ?_
          refine tr_aload_n dX12_readCall_128 rfl ?_
          refine q_getI dX12_readCall_129 fl12_99 (kR15 hS1063.1 ta0) c1066 ?_
          refine q_iconst dX12_readCall_132 (by decide) ?_
          intro v1078 h1079
          refine q_icmp_ne 137 dX12_readCall_133 (by decide) (fun h1080 => ?_) (fun h1080 => ?_)
          · skip
            exfalso; omega
          · skip
            exact tr_vret hZ dX12_readCall_136 rfl (by decide) (by decide) ⟨rfl, rfl, rfl, rfl, rfl, hS1063, (by (try rw [c4]); (try rw [c1066]); (try omega)), (by (try rw [c1070]); (try rw [c7]); (try omega)), (by (try rw [c1066]); (try rw [c1070]); (try rw [c7]); (try omega)), (by (try rw [c4]); (try rw [c10]); (try rw [c1066]); (try rw [c1075]); (try omega)), trivial⟩
def wi_X12_readFresh : List Nat := [968, 969, 970, 971, 972, 973, 974]
def wr_X12_readFresh : List Nat := []
set_option maxHeartbeats 4000000 in
theorem k_X12_readFresh {l : Launch} {T : Nat → Nat} {cn : Nat} {K N : Nat → Nat} {I0 : cz_I} {R0 : cz_R} {L0 : cz_L} {d : Int} (hW0 : Wf T cn K N I0 R0 d) {a0 : Nat} (ta0 : T a0 = 15) (nn4 : ∃ b, R0 a0 4 = some b) : ConE l mX12_readFresh [.ref a0] cn K N I0 R0 L0 (ca_l (fun v cn' K' N' I' R' L' => cn = cn' ∧ K = K' ∧ N = N' ∧ R0 = R' ∧ St T cn K N d wi_X12_readFresh wr_X12_readFresh I0 R0 I' R0 ∧ (((I0 a0 9).toInt = 5 → (I' a0 9).toInt = 5)) ∧ ((I' a0 8).toInt ≥ (I0 a0 8).toInt) ∧ (((2 ≤ (I' a0 9).toInt ∧ (I' a0 9).toInt ≤ 4) → (I' a0 8).toInt ≥ (I0 a0 8).toInt + 1)) ∧ ((((I0 a0 9).toInt = 5 → (I0 a0 13).toInt ≥ 1) → ((I' a0 9).toInt = 5 → (I' a0 13).toInt ≥ 1))) ∧ True)) := by
  refine ConE.of (by decide +kernel) rfl (Nat.le_of_ble_eq_true rfl) rfl (fun X hX hZ hE => ?_)
  subst hX
  have hS0 : St T cn K N d wi_X12_readFresh wr_X12_readFresh I0 R0 I0 R0 := St.rf0 hW0
  obtain ⟨a1, d2⟩ := nn4
  have ta1 : T a1 = 14 := hW0.rsN ta0 rfl d2
  obtain ⟨v3, c4⟩ : ∃ v, I0 a0 9 = v := ⟨_, rfl⟩
  have b5 := iv15_9 hS0.1 ta0 c4
  obtain ⟨v6, c7⟩ : ∃ v, I0 a0 8 = v := ⟨_, rfl⟩
  have b8 := iv15_8 hS0.1 ta0 c7
  obtain ⟨v9, c10⟩ : ∃ v, I0 a0 13 = v := ⟨_, rfl⟩
  refine tr_aload_n dX12_readFresh_0 rfl ?_
  refine q_callVi hE (M' := mX12_isName) (as := []) dX12_readFresh_1 lk12_197 inX12_isName seX12_isName myX12_isName (by decide) ⟨by decide, by decide⟩ rfl (kR15 hS0.1 ta0) (Nat.le_of_ble_eq_true rfl) rfl rfl (by decide) (by decide) (k_X12_isName hS0.1 ta0) ?_
  rintro v15 cn' K' N' I11 R12 L13 ⟨rfl, rfl, rfl, rfl, rfl, rfl, h16, -⟩
  refine q_if_ne 12 dX12_readFresh_4 (by decide) (fun h17 => ?_) (fun h17 => ?_)
  · skip
    refine tr_aload_n dX12_readFresh_12 rfl ?_
    refine tr_getR dX12_readFresh_13 fl12_188 (kR15 hS0.1 ta0) d2 ?_
    refine tr_aload_n dX12_readFresh_16 rfl ?_
    refine q_getL dX12_readFresh_17 fl12_118 (kR15 hS0.1 ta0) ?_
    intro y18
    refine q_callVi hE (M' := mX11_find) (as := [_]) dX12_readFresh_20 lk12_201 inX11_find seX11_find myX11_find (by decide) ⟨by decide, by decide⟩ rfl (kR14 hS0.1 ta1) (Nat.le_of_ble_eq_true rfl) rfl rfl (by decide) (by decide) (k_X11_find hS0.1 ta1) ?_
    rintro v23 cn' K' N' I19 R20 L21 ⟨rfl, rfl, rfl, rfl, rfl, rfl, h24, -⟩
    refine q_iconst dX12_readFresh_23 (by decide) ?_
    intro v25 h26
    refine q_icmp_eq 32 dX12_readFresh_24 (by decide) (fun h27 => ?_) (fun h27 => ?_)
    · skip
      refine tr_aload_n dX12_readFresh_32 rfl ?_
      refine q_getL dX12_readFresh_33 fl12_118 (kR15 hS0.1 ta0) ?_
      intro y28
      refine tr_lstore_n dX12_readFresh_36 (by decide) (by decide) (by decide) ?_
      refine tr_aload_n dX12_readFresh_37 rfl ?_
      refine q_callVv hE (M' := mX12_goesOn) (as := []) dX12_readFresh_38 lk12_142 inX12_goesOn seX12_goesOn myX12_goesOn (by decide) ⟨by decide, by decide⟩ rfl (kR15 hS0.1 ta0) (Nat.le_of_ble_eq_true rfl) rfl rfl (by decide) (by decide) (k_X12_goesOn hS0.1 ta0) ?_
      rintro cn' K' N' I29 R30 L31 ⟨rfl, rfl, rfl, rfl, g32, p34, p35, p36, p37, -⟩
      have hS38 := hS0.tr g32 (by decide +kernel) (by decide +kernel)
      have c39 : I29 a0 13 = v9 := (g32.cell ta0 (by decide +kernel)).trans c10
      obtain ⟨v40, c41⟩ : ∃ v, I29 a0 9 = v := ⟨_, rfl⟩
      have b42 := iv15_9 hS38.1 ta0 c41
      obtain ⟨v43, c44⟩ : ∃ v, I29 a0 8 = v := ⟨_, rfl⟩
      have b45 := iv15_8 hS38.1 ta0 c44
      have p46 := p34
      rw [c4] at p46
      rw [c41] at p46
      rw [c44] at p46
      rw [c7] at p46
      have p47 := p35
      rw [c4] at p47
      rw [c41] at p47
      have p48 := p36
      rw [c44] at p48
      rw [c7] at p48
      have p49 := p37
      rw [c4] at p49
      rw [c41] at p49
      rw [c44] at p49
      rw [c7] at p49
      refine tr_lload_n dX12_readFresh_41 rfl ?_
      exact tr_lret hZ dX12_readFresh_42 rfl (by decide) (by decide) ⟨y28, rfl, rfl, rfl, rfl, rfl, hS38, (by (try rw [c4]); (try rw [c41]); (try omega)), (by (try rw [c44]); (try rw [c7]); (try omega)), (by (try rw [c41]); (try rw [c44]); (try rw [c7]); (try omega)), (by (try rw [c4]); (try rw [c10]); (try rw [c41]); (try rw [c39]); (try omega)), trivial⟩
    · skip
      refine tr_aload_n dX12_readFresh_27 rfl ?_
      refine q_iconst dX12_readFresh_28 (by decide) ?_
      intro v50 h51
      refine q_callVv hE (M' := mX12_flaw) (as := [_]) dX12_readFresh_29 lk12_145 inX12_flaw seX12_flaw myX12_flaw (by decide) ⟨by decide, by decide⟩ rfl (kR15 hS0.1 ta0) (Nat.le_of_ble_eq_true rfl) rfl rfl (by decide) (by decide) (k_X12_flaw hS0.1 ta0 (by omega)) ?_
      rintro cn' K' N' I52 R53 L54 ⟨rfl, rfl, rfl, rfl, rfl, g55, p57, p58, -⟩
      have hS59 := hS0.tr g55 (by decide +kernel) (by decide +kernel)
      have c60 : I52 a0 8 = v6 := (g55.cell ta0 (by decide +kernel)).trans c7
      obtain ⟨v61, c62⟩ : ∃ v, I52 a0 9 = v := ⟨_, rfl⟩
      have b63 := iv15_9 hS59.1 ta0 c62
      have p64 := p57
      rw [c62] at p64
      obtain ⟨v65, c66⟩ : ∃ v, I52 a0 13 = v := ⟨_, rfl⟩
      have p67 := p58
      rw [c4] at p67
      rw [c10] at p67
      rw [c66] at p67
      refine tr_aload_n dX12_readFresh_32 rfl ?_
      refine q_getL dX12_readFresh_33 fl12_118 (kR15 hS59.1 ta0) ?_
      intro y68
      refine tr_lstore_n dX12_readFresh_36 (by decide) (by decide) (by decide) ?_
      refine tr_aload_n dX12_readFresh_37 rfl ?_
      refine q_callVv hE (M' := mX12_goesOn) (as := []) dX12_readFresh_38 lk12_142 inX12_goesOn seX12_goesOn myX12_goesOn (by decide) ⟨by decide, by decide⟩ rfl (kR15 hS59.1 ta0) (Nat.le_of_ble_eq_true rfl) rfl rfl (by decide) (by decide) (k_X12_goesOn hS59.1 ta0) ?_
      rintro cn' K' N' I69 R70 L71 ⟨rfl, rfl, rfl, rfl, g72, p74, p75, p76, p77, -⟩
      have hS78 := hS59.tr g72 (by decide +kernel) (by decide +kernel)
      have c79 : I69 a0 13 = v65 := (g72.cell ta0 (by decide +kernel)).trans c66
      obtain ⟨v80, c81⟩ : ∃ v, I69 a0 9 = v := ⟨_, rfl⟩
      have b82 := iv15_9 hS78.1 ta0 c81
      obtain ⟨v83, c84⟩ : ∃ v, I69 a0 8 = v := ⟨_, rfl⟩
      have b85 := iv15_8 hS78.1 ta0 c84
      have p86 := p74
      rw [c62] at p86
      rw [c81] at p86
      rw [c84] at p86
      rw [c60] at p86
      have p87 := p75
      rw [c62] at p87
      rw [c81] at p87
      have p88 := p76
      rw [c84] at p88
      rw [c60] at p88
      have p89 := p77
      rw [c62] at p89
      rw [c81] at p89
      rw [c84] at p89
      rw [c60] at p89
      refine tr_lload_n dX12_readFresh_41 rfl ?_
      exact tr_lret hZ dX12_readFresh_42 rfl (by decide) (by decide) ⟨y68, rfl, rfl, rfl, rfl, rfl, hS78, (by (try rw [c4]); (try rw [c81]); (try omega)), (by (try rw [c84]); (try rw [c7]); (try omega)), (by (try rw [c81]); (try rw [c84]); (try rw [c7]); (try omega)), (by (try rw [c4]); (try rw [c10]); (try rw [c81]); (try rw [c79]); (try omega)), trivial⟩
  · skip
    refine tr_aload_n dX12_readFresh_7 rfl ?_
    refine q_iconst dX12_readFresh_8 (by decide) ?_
    intro v90 h91
    refine q_callVv hE (M' := mX12_flaw) (as := [_]) dX12_readFresh_9 lk12_145 inX12_flaw seX12_flaw myX12_flaw (by decide) ⟨by decide, by decide⟩ rfl (kR15 hS0.1 ta0) (Nat.le_of_ble_eq_true rfl) rfl rfl (by decide) (by decide) (k_X12_flaw hS0.1 ta0 (by omega)) ?_
    rintro cn' K' N' I92 R93 L94 ⟨rfl, rfl, rfl, rfl, rfl, g95, p97, p98, -⟩
    have hS99 := hS0.tr g95 (by decide +kernel) (by decide +kernel)
    have c100 : I92 a0 8 = v6 := (g95.cell ta0 (by decide +kernel)).trans c7
    obtain ⟨v101, c102⟩ : ∃ v, I92 a0 9 = v := ⟨_, rfl⟩
    have b103 := iv15_9 hS99.1 ta0 c102
    have p104 := p97
    rw [c102] at p104
    obtain ⟨v105, c106⟩ : ∃ v, I92 a0 13 = v := ⟨_, rfl⟩
    have p107 := p98
    rw [c4] at p107
    rw [c10] at p107
    rw [c106] at p107
    refine tr_aload_n dX12_readFresh_12 rfl ?_
    refine tr_getR dX12_readFresh_13 fl12_188 (kR15 hS99.1 ta0) d2 ?_
    refine tr_aload_n dX12_readFresh_16 rfl ?_
    refine q_getL dX12_readFresh_17 fl12_118 (kR15 hS99.1 ta0) ?_
    intro y108
    refine q_callVi hE (M' := mX11_find) (as := [_]) dX12_readFresh_20 lk12_201 inX11_find seX11_find myX11_find (by decide) ⟨by decide, by decide⟩ rfl (kR14 hS99.1 ta1) (Nat.le_of_ble_eq_true rfl) rfl rfl (by decide) (by decide) (k_X11_find hS99.1 ta1) ?_
    rintro v113 cn' K' N' I109 R110 L111 ⟨rfl, rfl, rfl, rfl, rfl, rfl, h114, -⟩
    refine q_iconst dX12_readFresh_23 (by decide) ?_
    intro v115 h116
    refine q_icmp_eq 32 dX12_readFresh_24 (by decide) (fun h117 => ?_) (fun h117 => ?_)
    · skip
      refine tr_aload_n dX12_readFresh_32 rfl ?_
      refine q_getL dX12_readFresh_33 fl12_118 (kR15 hS99.1 ta0) ?_
      intro y118
      refine tr_lstore_n dX12_readFresh_36 (by decide) (by decide) (by decide) ?_
      refine tr_aload_n dX12_readFresh_37 rfl ?_
      refine q_callVv hE (M' := mX12_goesOn) (as := []) dX12_readFresh_38 lk12_142 inX12_goesOn seX12_goesOn myX12_goesOn (by decide) ⟨by decide, by decide⟩ rfl (kR15 hS99.1 ta0) (Nat.le_of_ble_eq_true rfl) rfl rfl (by decide) (by decide) (k_X12_goesOn hS99.1 ta0) ?_
      rintro cn' K' N' I119 R120 L121 ⟨rfl, rfl, rfl, rfl, g122, p124, p125, p126, p127, -⟩
      have hS128 := hS99.tr g122 (by decide +kernel) (by decide +kernel)
      have c129 : I119 a0 13 = v105 := (g122.cell ta0 (by decide +kernel)).trans c106
      obtain ⟨v130, c131⟩ : ∃ v, I119 a0 9 = v := ⟨_, rfl⟩
      have b132 := iv15_9 hS128.1 ta0 c131
      obtain ⟨v133, c134⟩ : ∃ v, I119 a0 8 = v := ⟨_, rfl⟩
      have b135 := iv15_8 hS128.1 ta0 c134
      have p136 := p124
      rw [c102] at p136
      rw [c131] at p136
      rw [c134] at p136
      rw [c100] at p136
      have p137 := p125
      rw [c102] at p137
      rw [c131] at p137
      have p138 := p126
      rw [c134] at p138
      rw [c100] at p138
      have p139 := p127
      rw [c102] at p139
      rw [c131] at p139
      rw [c134] at p139
      rw [c100] at p139
      refine tr_lload_n dX12_readFresh_41 rfl ?_
      exact tr_lret hZ dX12_readFresh_42 rfl (by decide) (by decide) ⟨y118, rfl, rfl, rfl, rfl, rfl, hS128, (by (try rw [c4]); (try rw [c131]); (try omega)), (by (try rw [c134]); (try rw [c7]); (try omega)), (by (try rw [c131]); (try rw [c134]); (try rw [c7]); (try omega)), (by (try rw [c4]); (try rw [c10]); (try rw [c131]); (try rw [c129]); (try omega)), trivial⟩
    · skip
      refine tr_aload_n dX12_readFresh_27 rfl ?_
      refine q_iconst dX12_readFresh_28 (by decide) ?_
      intro v140 h141
      refine q_callVv hE (M' := mX12_flaw) (as := [_]) dX12_readFresh_29 lk12_145 inX12_flaw seX12_flaw myX12_flaw (by decide) ⟨by decide, by decide⟩ rfl (kR15 hS99.1 ta0) (Nat.le_of_ble_eq_true rfl) rfl rfl (by decide) (by decide) (k_X12_flaw hS99.1 ta0 (by omega)) ?_
      rintro cn' K' N' I142 R143 L144 ⟨rfl, rfl, rfl, rfl, rfl, g145, p147, p148, -⟩
      have hS149 := hS99.tr g145 (by decide +kernel) (by decide +kernel)
      have c150 : I142 a0 8 = v6 := (g145.cell ta0 (by decide +kernel)).trans c100
      obtain ⟨v151, c152⟩ : ∃ v, I142 a0 9 = v := ⟨_, rfl⟩
      have b153 := iv15_9 hS149.1 ta0 c152
      have p154 := p147
      rw [c152] at p154
      obtain ⟨v155, c156⟩ : ∃ v, I142 a0 13 = v := ⟨_, rfl⟩
      have p157 := p148
      rw [c102] at p157
      rw [c106] at p157
      rw [c156] at p157
      refine tr_aload_n dX12_readFresh_32 rfl ?_
      refine q_getL dX12_readFresh_33 fl12_118 (kR15 hS149.1 ta0) ?_
      intro y158
      refine tr_lstore_n dX12_readFresh_36 (by decide) (by decide) (by decide) ?_
      refine tr_aload_n dX12_readFresh_37 rfl ?_
      refine q_callVv hE (M' := mX12_goesOn) (as := []) dX12_readFresh_38 lk12_142 inX12_goesOn seX12_goesOn myX12_goesOn (by decide) ⟨by decide, by decide⟩ rfl (kR15 hS149.1 ta0) (Nat.le_of_ble_eq_true rfl) rfl rfl (by decide) (by decide) (k_X12_goesOn hS149.1 ta0) ?_
      rintro cn' K' N' I159 R160 L161 ⟨rfl, rfl, rfl, rfl, g162, p164, p165, p166, p167, -⟩
      have hS168 := hS149.tr g162 (by decide +kernel) (by decide +kernel)
      have c169 : I159 a0 13 = v155 := (g162.cell ta0 (by decide +kernel)).trans c156
      obtain ⟨v170, c171⟩ : ∃ v, I159 a0 9 = v := ⟨_, rfl⟩
      have b172 := iv15_9 hS168.1 ta0 c171
      obtain ⟨v173, c174⟩ : ∃ v, I159 a0 8 = v := ⟨_, rfl⟩
      have b175 := iv15_8 hS168.1 ta0 c174
      have p176 := p164
      rw [c152] at p176
      rw [c171] at p176
      rw [c174] at p176
      rw [c150] at p176
      have p177 := p165
      rw [c152] at p177
      rw [c171] at p177
      have p178 := p166
      rw [c174] at p178
      rw [c150] at p178
      have p179 := p167
      rw [c152] at p179
      rw [c171] at p179
      rw [c174] at p179
      rw [c150] at p179
      refine tr_lload_n dX12_readFresh_41 rfl ?_
      exact tr_lret hZ dX12_readFresh_42 rfl (by decide) (by decide) ⟨y158, rfl, rfl, rfl, rfl, rfl, hS168, (by (try rw [c4]); (try rw [c171]); (try omega)), (by (try rw [c174]); (try rw [c7]); (try omega)), (by (try rw [c171]); (try rw [c174]); (try rw [c7]); (try omega)), (by (try rw [c4]); (try rw [c10]); (try rw [c171]); (try rw [c169]); (try omega)), trivial⟩
def wi_X12_eatsWord : List Nat := [968, 969, 970, 971, 972]
def wr_X12_eatsWord : List Nat := []
set_option maxHeartbeats 4000000 in
theorem k_X12_eatsWord {l : Launch} {T : Nat → Nat} {cn : Nat} {K N : Nat → Nat} {I0 : cz_I} {R0 : cz_R} {L0 : cz_L} {d : Int} (hW0 : Wf T cn K N I0 R0 d) {a0 : Nat} (ta0 : T a0 = 15) {u1 : UInt32} (hu1 : u1.toNat < cz_NS) : ConE l mX12_eatsWord [.ref a0, .float u1] cn K N I0 R0 L0 (ca_i (fun v cn' K' N' I' R' L' => cn = cn' ∧ K = K' ∧ N = N' ∧ R0 = R' ∧ St T cn K N d wi_X12_eatsWord wr_X12_eatsWord I0 R0 I' R0 ∧ (0 ≤ v.toInt ∧ v.toInt ≤ 1) ∧ ((v.toInt = 0 → ((I' a0 9).toInt = (I0 a0 9).toInt ∧ (I' a0 8).toInt = (I0 a0 8).toInt))) ∧ ((v.toInt = 1 → (((I0 a0 9).toInt = 2 ∧ (I' a0 9).toInt ≠ 5) ∧ (I' a0 8).toInt ≥ (I0 a0 8).toInt))) ∧ ((((v.toInt = 1 ∧ 2 ≤ (I' a0 9).toInt) ∧ (I' a0 9).toInt ≤ 4) → (I' a0 8).toInt ≥ (I0 a0 8).toInt + 1)) ∧ True)) := by
  refine ConE.of (by decide +kernel) rfl (Nat.le_of_ble_eq_true rfl) rfl (fun X hX hZ hE => ?_)
  subst hX
  have hS0 : St T cn K N d wi_X12_eatsWord wr_X12_eatsWord I0 R0 I0 R0 := St.rf0 hW0
  obtain ⟨v1, c2⟩ : ∃ v, I0 a0 9 = v := ⟨_, rfl⟩
  have b3 := iv15_9 hS0.1 ta0 c2
  obtain ⟨v4, c5⟩ : ∃ v, I0 a0 8 = v := ⟨_, rfl⟩
  have b6 := iv15_8 hS0.1 ta0 c5
  refine tr_aload_n dX12_eatsWord_0 rfl ?_
  refine tr_aload_nS dX12_eatsWord_1 rfl ?_
  refine q_callVi hE (M' := mX12_isWord) (as := [_]) dX12_eatsWord_2 lk12_138 inX12_isWord seX12_isWord myX12_isWord (by decide) ⟨by decide, by decide⟩ rfl (kR15 hS0.1 ta0) (Nat.le_of_ble_eq_true rfl) rfl rfl (by decide) (by decide) (k_X12_isWord hS0.1 ta0 hu1) ?_
  rintro v11 cn' K' N' I7 R8 L9 ⟨rfl, rfl, rfl, rfl, rfl, rfl, h12, p13, -⟩
  have p14 := p13
  rw [c2] at p14
  refine tr_istore_n dX12_eatsWord_5 (by decide) (by decide) ?_
  refine tr_iload_n dX12_eatsWord_6 rfl ?_
  refine q_if_eq 14 dX12_eatsWord_7 (by decide) (fun h15 => ?_) (fun h15 => ?_)
  · skip
    refine tr_iload_n dX12_eatsWord_14 rfl ?_
    exact tr_zret hZ dX12_eatsWord_15 rfl (ti_b01 (by omega) (by omega)) (by decide) (by decide) ⟨v11, rfl, rfl, rfl, rfl, rfl, hS0, (by omega), (by (try rw [c2]); (try rw [c5]); (try omega)), (by (try rw [c2]); (try rw [c5]); (try omega)), (by (try rw [c2]); (try rw [c5]); (try omega)), trivial⟩
  · skip
    refine tr_aload_n dX12_eatsWord_10 rfl ?_
    refine q_callVv hE (M' := mX12_goesOn) (as := []) dX12_eatsWord_11 lk12_142 inX12_goesOn seX12_goesOn myX12_goesOn (by decide) ⟨by decide, by decide⟩ rfl (kR15 hS0.1 ta0) (Nat.le_of_ble_eq_true rfl) rfl rfl (by decide) (by decide) (k_X12_goesOn hS0.1 ta0) ?_
    rintro cn' K' N' I16 R17 L18 ⟨rfl, rfl, rfl, rfl, g19, p21, p22, p23, p24, -⟩
    have hS25 := hS0.tr g19 (by decide +kernel) (by decide +kernel)
    obtain ⟨v26, c27⟩ : ∃ v, I16 a0 9 = v := ⟨_, rfl⟩
    have b28 := iv15_9 hS25.1 ta0 c27
    obtain ⟨v29, c30⟩ : ∃ v, I16 a0 8 = v := ⟨_, rfl⟩
    have b31 := iv15_8 hS25.1 ta0 c30
    have p32 := p21
    rw [c2] at p32
    rw [c27] at p32
    rw [c30] at p32
    rw [c5] at p32
    have p33 := p22
    rw [c2] at p33
    rw [c27] at p33
    have p34 := p23
    rw [c30] at p34
    rw [c5] at p34
    have p35 := p24
    rw [c2] at p35
    rw [c27] at p35
    rw [c30] at p35
    rw [c5] at p35
    refine tr_iload_n dX12_eatsWord_14 rfl ?_
    exact tr_zret hZ dX12_eatsWord_15 rfl (ti_b01 (by omega) (by omega)) (by decide) (by decide) ⟨v11, rfl, rfl, rfl, rfl, rfl, hS25, (by omega), (by (try rw [c27]); (try rw [c2]); (try rw [c30]); (try rw [c5]); (try omega)), (by (try rw [c2]); (try rw [c27]); (try rw [c30]); (try rw [c5]); (try omega)), (by (try rw [c27]); (try rw [c30]); (try rw [c5]); (try omega)), trivial⟩
