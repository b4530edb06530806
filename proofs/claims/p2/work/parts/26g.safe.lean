def wi_X12_names : List Nat := [903, 4799, 4863]
def wr_X12_names : List Nat := []
set_option maxHeartbeats 4000000 in
theorem k_X12_names {l : Launch} {T : Nat → Nat} {cn : Nat} {K N : Nat → Nat} {I0 : cz_I} {R0 : cz_R} {L0 : cz_L} (hW0 : Wf T cn K N I0 R0 0) {a0 : Nat} (ta0 : T a0 = 15) {y1 : Int64} {x2 : Int32} {x3 : Int32} (pre0 : ∀ b1, R0 a0 4 = some b1 → (I0 b1 7).toInt ≤ 12) (nn4 : ∃ b, R0 a0 4 = some b) : ConE l mX12_names [.ref a0, .long y1, .int x2, .int x3] cn K N I0 R0 L0 (ca_v (fun cn' K' N' I' R' L' => cn = cn' ∧ K = K' ∧ N = N' ∧ R0 = R' ∧ St T cn K N 1 wi_X12_names wr_X12_names I0 R0 I' R0 ∧ True)) := by
  refine ConE.of (by decide +kernel) rfl (Nat.le_of_ble_eq_true rfl) rfl (fun X hX hZ hE => ?_)
  subst hX
  have hS0 : St T cn K N 0 wi_X12_names wr_X12_names I0 R0 I0 R0 := St.rf0 hW0
  obtain ⟨a1, d2⟩ := nn4
  have ta1 : T a1 = 14 := hW0.rsN ta0 rfl d2
  obtain ⟨v3, c4⟩ : ∃ v, I0 a1 7 = v := ⟨_, rfl⟩
  have b5 := iv14_7 hS0.1 ta1 c4
  have p6 := pre0 _ d2
  rw [c4] at p6
  refine tr_aload_n dX12_names_0 rfl ?_
  refine tr_getR dX12_names_1 fl12_188 (kR15 hS0.1 ta0) d2 ?_
  obtain ⟨a7, d8, ta7⟩ := rf14_30 hW0 ta1
  refine tr_getR dX12_names_4 fl12_205 (kR14 hS0.1 ta1) d8 ?_
  refine tr_aload_n dX12_names_7 rfl ?_
  refine tr_getR dX12_names_8 fl12_188 (kR15 hS0.1 ta0) d2 ?_
  refine q_getI dX12_names_11 fl12_209 (kR14 hS0.1 ta1) c4 ?_
  refine tr_lload_n dX12_names_14 rfl ?_
  refine q_last dX12_names_15 (kR73 hS0.1 ta7) (ti_in (nR73 hS0.1 ta7) (by omega) (by omega)) ?_
  intro L9
  refine tr_aload_n dX12_names_16 rfl ?_
  refine tr_getR dX12_names_17 fl12_188 (kR15 hS0.1 ta0) d2 ?_
  obtain ⟨a10, d11, ta10⟩ := rf14_31 hW0 ta1
  refine tr_getR dX12_names_20 fl12_212 (kR14 hS0.1 ta1) d11 ?_
  refine tr_aload_n dX12_names_23 rfl ?_
  refine tr_getR dX12_names_24 fl12_188 (kR15 hS0.1 ta0) d2 ?_
  refine q_getI dX12_names_27 fl12_209 (kR14 hS0.1 ta1) c4 ?_
  refine tr_iload_n dX12_names_30 rfl ?_
  refine q_iast dX12_names_31 (kR74 hS0.1 ta10) (ti_in (nR74 hS0.1 ta10) (by omega) (by omega)) hS0 ta10 (iokF rfl) rfl (by rfl) ?_
  intro I12 hS13 e15 f14
  have c16 : I12 a1 7 = v3 := (f14 _ _ (fun q => by have z := ta1; rw [q.1, ta10] at z; exact absurd z (by decide))).trans c4
  refine tr_aload_n dX12_names_32 rfl ?_
  refine tr_getR dX12_names_33 fl12_188 (kR15 hS13.1 ta0) d2 ?_
  obtain ⟨a17, d18, ta17⟩ := rf14_32 hW0 ta1
  refine tr_getR dX12_names_36 fl12_215 (kR14 hS13.1 ta1) d18 ?_
  refine tr_aload_n dX12_names_39 rfl ?_
  refine tr_getR dX12_names_40 fl12_188 (kR15 hS13.1 ta0) d2 ?_
  refine q_getI dX12_names_43 fl12_209 (kR14 hS13.1 ta1) c16 ?_
  refine tr_iload dX12_names_46 rfl ?_
  refine q_iast dX12_names_48 (kR75 hS13.1 ta17) (ti_in (nR75 hS13.1 ta17) (by omega) (by omega)) hS13 ta17 (iokF rfl) rfl (by rfl) ?_
  intro I19 hS20 e22 f21
  have c23 : I19 a1 7 = v3 := (f21 _ _ (fun q => by have z := ta1; rw [q.1, ta17] at z; exact absurd z (by decide))).trans c16
  refine tr_aload_n dX12_names_49 rfl ?_
  refine tr_getR dX12_names_50 fl12_188 (kR15 hS20.1 ta0) d2 ?_
  refine tr_dup dX12_names_53 rfl ?_
  refine q_getI dX12_names_54 fl12_209 (kR14 hS20.1 ta1) c23 ?_
  refine q_iconst dX12_names_57 (by decide) ?_
  intro v24 h25
  refine q_iaddE dX12_names_58 (by intros; omega) ?_
  intro v26 h27
  refine q_putX dX12_names_59 fl12_209 (kR14 hS20.1 ta1) (Or.inl rfl) hS20 ta1 (by decide +kernel) (hS20.1.putN (d' := 1) ta0 d2 (Or.inl rfl) (by rw [c23]; omega) (by decide) (by show (0 : Int) ≤ v26.toInt ∧ v26.toInt ≤ (13 : Int); omega)) ?_
  intro I28 hS29 e30 f31
  exact tr_vret hZ dX12_names_62 rfl (by decide) (by decide) ⟨rfl, rfl, rfl, rfl, rfl, hS29, trivial⟩
def wi_X12_readTurner : List Nat := [900, 903, 968, 969, 970, 971, 972, 973, 974, 4095, 4159, 4223, 4287, 4351, 4415, 4799, 4863]
def wr_X12_readTurner : List Nat := []
set_option maxHeartbeats 4000000 in
theorem k_X12_readTurner {l : Launch} {T : Nat → Nat} {cn : Nat} {K N : Nat → Nat} {I0 : cz_I} {R0 : cz_R} {L0 : cz_L} (hW0 : Wf T cn K N I0 R0 0) {a0 : Nat} (ta0 : T a0 = 15) (nn4 : ∃ b, R0 a0 4 = some b) : ConE l mX12_readTurner [.ref a0] cn K N I0 R0 L0 (ca_v (fun cn' K' N' I' R' L' => cn = cn' ∧ K = K' ∧ N = N' ∧ R0 = R' ∧ St T cn K N 0 wi_X12_readTurner wr_X12_readTurner I0 R0 I' R0 ∧ (((I0 a0 9).toInt = 5 → (I' a0 9).toInt = 5)) ∧ ((I' a0 8).toInt ≥ (I0 a0 8).toInt) ∧ (((2 ≤ (I' a0 9).toInt ∧ (I' a0 9).toInt ≤ 4) → (I' a0 8).toInt ≥ (I0 a0 8).toInt + 1)) ∧ ((((I0 a0 9).toInt = 5 → (I0 a0 13).toInt ≥ 1) → ((I' a0 9).toInt = 5 → (I' a0 13).toInt ≥ 1))) ∧ True)) := by
  refine ConE.of (by decide +kernel) rfl (Nat.le_of_ble_eq_true rfl) rfl (fun X hX hZ hE => ?_)
  subst hX
  have hS0 : St T cn K N 0 wi_X12_readTurner wr_X12_readTurner I0 R0 I0 R0 := St.rf0 hW0
  obtain ⟨a1, d2⟩ := nn4
  have ta1 : T a1 = 14 := hW0.rsN ta0 rfl d2
  obtain ⟨v3, c4⟩ : ∃ v, I0 a0 9 = v := ⟨_, rfl⟩
  have b5 := iv15_9 hS0.1 ta0 c4
  obtain ⟨v6, c7⟩ : ∃ v, I0 a0 8 = v := ⟨_, rfl⟩
  have b8 := iv15_8 hS0.1 ta0 c7
  obtain ⟨v9, c10⟩ : ∃ v, I0 a0 13 = v := ⟨_, rfl⟩
  refine tr_aload_n dX12_readTurner_0 rfl ?_
  refine tr_aload_n dX12_readTurner_1 rfl ?_
  refine tr_getR dX12_readTurner_2 fl12_188 (kR15 hS0.1 ta0) d2 ?_
  obtain ⟨v11, c12⟩ : ∃ v, I0 a1 4 = v := ⟨_, rfl⟩
  have b13 := iv14_4 hS0.1 ta1 c12
  refine q_getI dX12_readTurner_5 fl12_315 (kR14 hS0.1 ta1) c12 ?_
  refine q_iconst dX12_readTurner_8 (by decide) ?_
  intro v14 h15
  refine q_callVv hE (M' := mX12_begins) (as := [_, _]) dX12_readTurner_9 lk12_268 inX12_begins seX12_begins myX12_begins (by decide) ⟨by decide, by decide⟩ rfl (kR15 hS0.1 ta0) (Nat.le_of_ble_eq_true rfl) rfl rfl (by decide) (by decide) (k_X12_begins hS0.1 ta0 ⟨_, d2⟩) ?_
  rintro cn' K' N' I16 R17 L18 ⟨rfl, rfl, rfl, rfl, g19, p21, p22, p23, p24, p25, -⟩
  have hS26 := hS0.tr g19 (by decide +kernel) (by decide +kernel)
  have c27 : I16 a1 4 = v11 := (g19.cell ta1 (by decide +kernel)).trans c12
  obtain ⟨v28, c29⟩ : ∃ v, I16 a0 9 = v := ⟨_, rfl⟩
  have b30 := iv15_9 hS26.1 ta0 c29
  have p31 := p21
  rw [c4] at p31
  rw [c29] at p31
  obtain ⟨v32, c33⟩ : ∃ v, I16 a0 8 = v := ⟨_, rfl⟩
  have b34 := iv15_8 hS26.1 ta0 c33
  have p35 := p22
  rw [c33] at p35
  rw [c7] at p35
  have p36 := p23
  rw [c29] at p36
  rw [c33] at p36
  rw [c7] at p36
  obtain ⟨v37, c38⟩ : ∃ v, I16 a0 13 = v := ⟨_, rfl⟩
  have p39 := p24
  rw [c4] at p39
  rw [c10] at p39
  rw [c29] at p39
  rw [c38] at p39
  have p40 := p25
  rw [c29] at p40
  refine tr_aload_n dX12_readTurner_12 rfl ?_
  refine q_callVl hE (M' := mX12_readFresh) (as := []) dX12_readTurner_13 lk12_285 inX12_readFresh seX12_readFresh myX12_readFresh (by decide) ⟨by decide, by decide⟩ rfl (kR15 hS26.1 ta0) (Nat.le_of_ble_eq_true rfl) rfl rfl (by decide) (by decide) (k_X12_readFresh hS26.1 ta0 ⟨_, d2⟩) ?_
  rintro y45 cn' K' N' I41 R42 L43 ⟨rfl, rfl, rfl, rfl, g44, p46, p47, p48, p49, -⟩
  have hS50 := hS26.tr g44 (by decide +kernel) (by decide +kernel)
  have c51 : I41 a1 4 = v11 := (g44.cell ta1 (by decide +kernel)).trans c27
  obtain ⟨v52, c53⟩ : ∃ v, I41 a0 9 = v := ⟨_, rfl⟩
  have b54 := iv15_9 hS50.1 ta0 c53
  have p55 := p46
  rw [c29] at p55
  rw [c53] at p55
  obtain ⟨v56, c57⟩ : ∃ v, I41 a0 8 = v := ⟨_, rfl⟩
  have b58 := iv15_8 hS50.1 ta0 c57
  have p59 := p47
  rw [c57] at p59
  rw [c33] at p59
  have p60 := p48
  rw [c53] at p60
  rw [c57] at p60
  rw [c33] at p60
  obtain ⟨v61, c62⟩ : ∃ v, I41 a0 13 = v := ⟨_, rfl⟩
  have p63 := p49
  rw [c29] at p63
  rw [c38] at p63
  rw [c53] at p63
  rw [c62] at p63
  refine tr_lstore_n dX12_readTurner_16 (by decide) (by decide) (by decide) ?_
  refine tr_aload_n dX12_readTurner_17 rfl ?_
  refine tr_ldcwS dX12_readTurner_18 ld12_318 ?_
  refine q_callVi hE (M' := mX12_eatsWord) (as := [_]) dX12_readTurner_21 lk12_290 inX12_eatsWord seX12_eatsWord myX12_eatsWord (by decide) ⟨by decide, by decide⟩ rfl (kR15 hS50.1 ta0) (Nat.le_of_ble_eq_true rfl) rfl rfl (by decide) (by decide) (k_X12_eatsWord hS50.1 ta0 (by decide)) ?_
  rintro v68 cn' K' N' I64 R65 L66 ⟨rfl, rfl, rfl, rfl, g67, h69, p70, p71, p72, -⟩
  have hS73 := hS50.tr g67 (by decide +kernel) (by decide +kernel)
  have c74 : I64 a1 4 = v11 := (g67.cell ta1 (by decide +kernel)).trans c51
  have c75 : I64 a0 13 = v61 := (g67.cell ta0 (by decide +kernel)).trans c62
  obtain ⟨v76, c77⟩ : ∃ v, I64 a0 9 = v := ⟨_, rfl⟩
  have b78 := iv15_9 hS73.1 ta0 c77
  obtain ⟨v79, c80⟩ : ∃ v, I64 a0 8 = v := ⟨_, rfl⟩
  have b81 := iv15_8 hS73.1 ta0 c80
  have p82 := p70
  rw [c77] at p82
  rw [c53] at p82
  rw [c80] at p82
  rw [c57] at p82
  have p83 := p71
  rw [c53] at p83
  rw [c77] at p83
  rw [c80] at p83
  rw [c57] at p83
  have p84 := p72
  rw [c77] at p84
  rw [c80] at p84
  rw [c57] at p84
  refine q_if_eq 31 dX12_readTurner_24 (by decide) (fun h85 => ?_) (fun h85 => ?_)
  · skip
    refine tr_aload_n dX12_readTurner_31 rfl ?_
    refine tr_ldcwS dX12_readTurner_32 ld12_320 ?_
    refine q_callVi hE (M' := mX12_eatsWord) (as := [_]) dX12_readTurner_35 lk12_290 inX12_eatsWord seX12_eatsWord myX12_eatsWord (by decide) ⟨by decide, by decide⟩ rfl (kR15 hS73.1 ta0) (Nat.le_of_ble_eq_true rfl) rfl rfl (by decide) (by decide) (k_X12_eatsWord hS73.1 ta0 (by decide)) ?_
    rintro v90 cn' K' N' I86 R87 L88 ⟨rfl, rfl, rfl, rfl, g89, h91, p92, p93, p94, -⟩
    have hS95 := hS73.tr g89 (by decide +kernel) (by decide +kernel)
    have c96 : I86 a1 4 = v11 := (g89.cell ta1 (by decide +kernel)).trans c74
    have c97 : I86 a0 13 = v61 := (g89.cell ta0 (by decide +kernel)).trans c75
    obtain ⟨v98, c99⟩ : ∃ v, I86 a0 9 = v := ⟨_, rfl⟩
    have b100 := iv15_9 hS95.1 ta0 c99
    obtain ⟨v101, c102⟩ : ∃ v, I86 a0 8 = v := ⟨_, rfl⟩
    have b103 := iv15_8 hS95.1 ta0 c102
    have p104 := p92
    rw [c99] at p104
    rw [c77] at p104
    rw [c102] at p104
    rw [c80] at p104
    have p105 := p93
    rw [c77] at p105
    rw [c99] at p105
    rw [c102] at p105
    rw [c80] at p105
    have p106 := p94
    rw [c99] at p106
    rw [c102] at p106
    rw [c80] at p106
    refine q_if_eq 45 dX12_readTurner_38 (by decide) (fun h107 => ?_) (fun h107 => ?_)
    · skip
      refine tr_aload_n dX12_readTurner_45 rfl ?_
      refine tr_ldcwS dX12_readTurner_46 ld12_322 ?_
      refine q_callVi hE (M' := mX12_eatsWord) (as := [_]) dX12_readTurner_49 lk12_290 inX12_eatsWord seX12_eatsWord myX12_eatsWord (by decide) ⟨by decide, by decide⟩ rfl (kR15 hS95.1 ta0) (Nat.le_of_ble_eq_true rfl) rfl rfl (by decide) (by decide) (k_X12_eatsWord hS95.1 ta0 (by decide)) ?_
      rintro v112 cn' K' N' I108 R109 L110 ⟨rfl, rfl, rfl, rfl, g111, h113, p114, p115, p116, -⟩
      have hS117 := hS95.tr g111 (by decide +kernel) (by decide +kernel)
      have c118 : I108 a1 4 = v11 := (g111.cell ta1 (by decide +kernel)).trans c96
      have c119 : I108 a0 13 = v61 := (g111.cell ta0 (by decide +kernel)).trans c97
      obtain ⟨v120, c121⟩ : ∃ v, I108 a0 9 = v := ⟨_, rfl⟩
      have b122 := iv15_9 hS117.1 ta0 c121
      obtain ⟨v123, c124⟩ : ∃ v, I108 a0 8 = v := ⟨_, rfl⟩
      have b125 := iv15_8 hS117.1 ta0 c124
      have p126 := p114
      rw [c121] at p126
      rw [c99] at p126
      rw [c124] at p126
      rw [c102] at p126
      have p127 := p115
      rw [c99] at p127
      rw [c121] at p127
      rw [c124] at p127
      rw [c102] at p127
      have p128 := p116
      rw [c121] at p128
      rw [c124] at p128
      rw [c102] at p128
      refine q_if_eq 59 dX12_readTurner_52 (by decide) (fun h129 => ?_) (fun h129 => ?_)
      · skip
        refine tr_aload_n dX12_readTurner_59 rfl ?_
        refine tr_ldcS dX12_readTurner_60 ld12_178 ?_
        refine q_callVi hE (M' := mX12_eatsWord) (as := [_]) dX12_readTurner_62 lk12_290 inX12_eatsWord seX12_eatsWord myX12_eatsWord (by decide) ⟨by decide, by decide⟩ rfl (kR15 hS117.1 ta0) (Nat.le_of_ble_eq_true rfl) rfl rfl (by decide) (by decide) (k_X12_eatsWord hS117.1 ta0 (by decide)) ?_
        rintro v134 cn' K' N' I130 R131 L132 ⟨rfl, rfl, rfl, rfl, g133, h135, p136, p137, p138, -⟩
        have hS139 := hS117.tr g133 (by decide +kernel) (by decide +kernel)
        have c140 : I130 a1 4 = v11 := (g133.cell ta1 (by decide +kernel)).trans c118
        have c141 : I130 a0 13 = v61 := (g133.cell ta0 (by decide +kernel)).trans c119
        obtain ⟨v142, c143⟩ : ∃ v, I130 a0 9 = v := ⟨_, rfl⟩
        have b144 := iv15_9 hS139.1 ta0 c143
        obtain ⟨v145, c146⟩ : ∃ v, I130 a0 8 = v := ⟨_, rfl⟩
        have b147 := iv15_8 hS139.1 ta0 c146
        have p148 := p136
        rw [c143] at p148
        rw [c121] at p148
        rw [c146] at p148
        rw [c124] at p148
        have p149 := p137
        rw [c121] at p149
        rw [c143] at p149
        rw [c146] at p149
        rw [c124] at p149
        have p150 := p138
        rw [c143] at p150
        rw [c146] at p150
        rw [c124] at p150
        refine q_if_eq 72 dX12_readTurner_65 (by decide) (fun h151 => ?_) (fun h151 => ?_)
        · skip
          refine q_iconst dX12_readTurner_72 (by decide) ?_
          intro v152 h153
          refine tr_istore_n dX12_readTurner_73 (by decide) (by decide) ?_
          refine tr_iload_n dX12_readTurner_74 rfl ?_
          refine q_iconst dX12_readTurner_75 (by decide) ?_
          intro v154 h155
          refine q_icmp_ne 84 dX12_readTurner_76 (by decide) (fun h156 => ?_) (fun h156 => ?_)
          · skip
            exfalso; omega
          · skip
            refine tr_aload_n dX12_readTurner_79 rfl ?_
            refine q_iconst dX12_readTurner_80 (by decide) ?_
            intro v157 h158
            refine q_callVv hE (M' := mX12_flaw) (as := [_]) dX12_readTurner_81 lk12_145 inX12_flaw seX12_flaw myX12_flaw (by decide) ⟨by decide, by decide⟩ rfl (kR15 hS139.1 ta0) (Nat.le_of_ble_eq_true rfl) rfl rfl (by decide) (by decide) (k_X12_flaw hS139.1 ta0 (by omega)) ?_
            rintro cn' K' N' I159 R160 L161 ⟨rfl, rfl, rfl, rfl, rfl, g162, p164, p165, -⟩
            have hS166 := hS139.tr g162 (by decide +kernel) (by decide +kernel)
            have c167 : I159 a1 4 = v11 := (g162.cell ta1 (by decide +kernel)).trans c140
            have c168 : I159 a0 8 = v145 := (g162.cell ta0 (by decide +kernel)).trans c146
            obtain ⟨v169, c170⟩ : ∃ v, I159 a0 9 = v := ⟨_, rfl⟩
            have b171 := iv15_9 hS166.1 ta0 c170
            have p172 := p164
            rw [c170] at p172
            obtain ⟨v173, c174⟩ : ∃ v, I159 a0 13 = v := ⟨_, rfl⟩
            have p175 := p165
            rw [c143] at p175
            rw [c141] at p175
            rw [c174] at p175
            refine tr_aload_n dX12_readTurner_84 rfl ?_
            refine tr_ldcwS dX12_readTurner_85 ld12_324 ?_
            refine q_iconst dX12_readTurner_88 (by decide) ?_
            intro v176 h177
            refine tr_aload_n dX12_readTurner_89 rfl ?_
            refine tr_getR dX12_readTurner_90 fl12_188 (kR15 hS166.1 ta0) d2 ?_
            obtain ⟨v178, c179⟩ : ∃ v, I0 a1 0 = v := ⟨_, rfl⟩
            have b180 := iv14_0 hW0 ta1 c179
            refine q_getI dX12_readTurner_93 fl12_192 (kR14 hS166.1 ta1) ((hS166.cell ta1 (by decide +kernel)).trans c179) ?_
            refine q_iconst dX12_readTurner_96 (by decide) ?_
            intro v181 h182
            refine q_isubE dX12_readTurner_97 (by intros; omega) ?_
            intro v183 h184
            refine q_callVi hE (M' := mX12_readPart) (as := [_, _, _]) dX12_readTurner_98 lk12_249 inX12_readPart seX12_readPart myX12_readPart (by decide) ⟨by decide, by decide⟩ rfl (kR15 hS166.1 ta0) (Nat.le_of_ble_eq_true rfl) rfl rfl (by decide) (by decide) (k_X12_readPart hS166.1 ta0 (by decide)) ?_
            rintro v189 cn' K' N' I185 R186 L187 ⟨rfl, rfl, rfl, rfl, g188, p190, p191, p192, p193, p194, -⟩
            have hS195 := hS166.tr g188 (by decide +kernel) (by decide +kernel)
            have c196 : I185 a1 4 = v11 := (g188.cell ta1 (by decide +kernel)).trans c167
            obtain ⟨v197, c198⟩ : ∃ v, I185 a0 9 = v := ⟨_, rfl⟩
            have b199 := iv15_9 hS195.1 ta0 c198
            have p200 := p190
            rw [c170] at p200
            rw [c198] at p200
            obtain ⟨v201, c202⟩ : ∃ v, I185 a0 8 = v := ⟨_, rfl⟩
            have b203 := iv15_8 hS195.1 ta0 c202
            have p204 := p191
            rw [c202] at p204
            rw [c168] at p204
            have p205 := p192
            rw [c198] at p205
            rw [c202] at p205
            rw [c168] at p205
            obtain ⟨v206, c207⟩ : ∃ v, I185 a0 13 = v := ⟨_, rfl⟩
            have p208 := p193
            rw [c170] at p208
            rw [c174] at p208
            rw [c198] at p208
            rw [c207] at p208
            have p209 := p194
            refine tr_istore dX12_readTurner_101 (by decide) (by decide) ?_
            refine tr_aload_n dX12_readTurner_103 rfl ?_
            refine tr_ldcwS dX12_readTurner_104 ld12_272 ?_
            refine tr_iload dX12_readTurner_107 rfl ?_
            refine q_iconst dX12_readTurner_109 (by decide) ?_
            intro v210 h211
            refine q_iaddE dX12_readTurner_110 (by intros; omega) ?_
            intro v212 h213
            refine tr_aload_n dX12_readTurner_111 rfl ?_
            refine tr_getR dX12_readTurner_112 fl12_188 (kR15 hS195.1 ta0) d2 ?_
            refine q_getI dX12_readTurner_115 fl12_192 (kR14 hS195.1 ta1) ((hS195.cell ta1 (by decide +kernel)).trans c179) ?_
            refine q_callVi hE (M' := mX12_readPart) (as := [_, _, _]) dX12_readTurner_118 lk12_249 inX12_readPart seX12_readPart myX12_readPart (by decide) ⟨by decide, by decide⟩ rfl (kR15 hS195.1 ta0) (Nat.le_of_ble_eq_true rfl) rfl rfl (by decide) (by decide) (k_X12_readPart hS195.1 ta0 (by decide)) ?_
            rintro v218 cn' K' N' I214 R215 L216 ⟨rfl, rfl, rfl, rfl, g217, p219, p220, p221, p222, p223, -⟩
            have hS224 := hS195.tr g217 (by decide +kernel) (by decide +kernel)
            have c225 : I214 a1 4 = v11 := (g217.cell ta1 (by decide +kernel)).trans c196
            obtain ⟨v226, c227⟩ : ∃ v, I214 a0 9 = v := ⟨_, rfl⟩
            have b228 := iv15_9 hS224.1 ta0 c227
            have p229 := p219
            rw [c198] at p229
            rw [c227] at p229
            obtain ⟨v230, c231⟩ : ∃ v, I214 a0 8 = v := ⟨_, rfl⟩
            have b232 := iv15_8 hS224.1 ta0 c231
            have p233 := p220
            rw [c231] at p233
            rw [c202] at p233
            have p234 := p221
            rw [c227] at p234
            rw [c231] at p234
            rw [c202] at p234
            obtain ⟨v235, c236⟩ : ∃ v, I214 a0 13 = v := ⟨_, rfl⟩
            have p237 := p222
            rw [c198] at p237
            rw [c207] at p237
            rw [c227] at p237
            rw [c236] at p237
            have p238 := p223
            refine tr_istore dX12_readTurner_121 (by decide) (by decide) ?_
            refine tr_aload_n dX12_readTurner_123 rfl ?_
            refine tr_ldcwS dX12_readTurner_124 ld12_325 ?_
            refine q_iconst dX12_readTurner_127 (by decide) ?_
            intro v239 h240
            refine q_bipush dX12_readTurner_128 (by decide +kernel) ?_
            intro v241 h242
            refine q_callVi hE (M' := mX12_readPart) (as := [_, _, _]) dX12_readTurner_130 lk12_249 inX12_readPart seX12_readPart myX12_readPart (by decide) ⟨by decide, by decide⟩ rfl (kR15 hS224.1 ta0) (Nat.le_of_ble_eq_true rfl) rfl rfl (by decide) (by decide) (k_X12_readPart hS224.1 ta0 (by decide)) ?_
            rintro v247 cn' K' N' I243 R244 L245 ⟨rfl, rfl, rfl, rfl, g246, p248, p249, p250, p251, p252, -⟩
            have hS253 := hS224.tr g246 (by decide +kernel) (by decide +kernel)
            have c254 : I243 a1 4 = v11 := (g246.cell ta1 (by decide +kernel)).trans c225
            obtain ⟨v255, c256⟩ : ∃ v, I243 a0 9 = v := ⟨_, rfl⟩
            have b257 := iv15_9 hS253.1 ta0 c256
            have p258 := p248
            rw [c227] at p258
            rw [c256] at p258
            obtain ⟨v259, c260⟩ : ∃ v, I243 a0 8 = v := ⟨_, rfl⟩
            have b261 := iv15_8 hS253.1 ta0 c260
            have p262 := p249
            rw [c260] at p262
            rw [c231] at p262
            have p263 := p250
            rw [c256] at p263
            rw [c260] at p263
            rw [c231] at p263
            obtain ⟨v264, c265⟩ : ∃ v, I243 a0 13 = v := ⟨_, rfl⟩
            have p266 := p251
            rw [c227] at p266
            rw [c236] at p266
            rw [c256] at p266
            rw [c265] at p266
            have p267 := p252
            refine tr_istore dX12_readTurner_133 (by decide) (by decide) ?_
            refine tr_aload_n dX12_readTurner_135 rfl ?_
            refine tr_ldcwS dX12_readTurner_136 ld12_327 ?_
            refine q_iconst dX12_readTurner_139 (by decide) ?_
            intro v268 h269
            refine q_bipush dX12_readTurner_140 (by decide +kernel) ?_
            intro v270 h271
            refine q_callVi hE (M' := mX12_readPart) (as := [_, _, _]) dX12_readTurner_142 lk12_249 inX12_readPart seX12_readPart myX12_readPart (by decide) ⟨by decide, by decide⟩ rfl (kR15 hS253.1 ta0) (Nat.le_of_ble_eq_true rfl) rfl rfl (by decide) (by decide) (k_X12_readPart hS253.1 ta0 (by decide)) ?_
            rintro v276 cn' K' N' I272 R273 L274 ⟨rfl, rfl, rfl, rfl, g275, p277, p278, p279, p280, p281, -⟩
            have hS282 := hS253.tr g275 (by decide +kernel) (by decide +kernel)
            have c283 : I272 a1 4 = v11 := (g275.cell ta1 (by decide +kernel)).trans c254
            obtain ⟨v284, c285⟩ : ∃ v, I272 a0 9 = v := ⟨_, rfl⟩
            have b286 := iv15_9 hS282.1 ta0 c285
            have p287 := p277
            rw [c256] at p287
            rw [c285] at p287
            obtain ⟨v288, c289⟩ : ∃ v, I272 a0 8 = v := ⟨_, rfl⟩
            have b290 := iv15_8 hS282.1 ta0 c289
            have p291 := p278
            rw [c289] at p291
            rw [c260] at p291
            have p292 := p279
            rw [c285] at p292
            rw [c289] at p292
            rw [c260] at p292
            obtain ⟨v293, c294⟩ : ∃ v, I272 a0 13 = v := ⟨_, rfl⟩
            have p295 := p280
            rw [c256] at p295
            rw [c265] at p295
            rw [c285] at p295
            rw [c294] at p295
            have p296 := p281
            refine tr_istore dX12_readTurner_145 (by decide) (by decide) ?_
            refine tr_aload_n dX12_readTurner_147 rfl ?_
            refine tr_ldcS dX12_readTurner_148 ld12_253 ?_
            refine q_callVv hE (M' := mX12_needs) (as := [_]) dX12_readTurner_150 lk12_157 inX12_needs seX12_needs myX12_needs (by decide) ⟨by decide, by decide⟩ rfl (kR15 hS282.1 ta0) (Nat.le_of_ble_eq_true rfl) rfl rfl (by decide) (by decide) (k_X12_needs hS282.1 ta0 (by decide)) ?_
            rintro cn' K' N' I297 R298 L299 ⟨rfl, rfl, rfl, rfl, g300, p302, p303, p304, p305, -⟩
            have hS306 := hS282.tr g300 (by decide +kernel) (by decide +kernel)
            have c307 : I297 a1 4 = v11 := (g300.cell ta1 (by decide +kernel)).trans c283
            obtain ⟨v308, c309⟩ : ∃ v, I297 a0 9 = v := ⟨_, rfl⟩
            have b310 := iv15_9 hS306.1 ta0 c309
            have p311 := p302
            rw [c285] at p311
            rw [c309] at p311
            obtain ⟨v312, c313⟩ : ∃ v, I297 a0 8 = v := ⟨_, rfl⟩
            have b314 := iv15_8 hS306.1 ta0 c313
            have p315 := p303
            rw [c313] at p315
            rw [c289] at p315
            have p316 := p304
            rw [c309] at p316
            rw [c313] at p316
            rw [c289] at p316
            obtain ⟨v317, c318⟩ : ∃ v, I297 a0 13 = v := ⟨_, rfl⟩
            have p319 := p305
            rw [c285] at p319
            rw [c294] at p319
            rw [c309] at p319
            rw [c318] at p319
            refine q_iconst dX12_readTurner_153 (by decide) ?_
            intro v320 h321
            refine tr_istore dX12_readTurner_154 (by decide) (by decide) ?_
            refine q_iconst dX12_readTurner_156 (by decide) ?_
            intro v322 h323
            refine tr_istore dX12_readTurner_157 (by decide) (by decide) ?_
            have lp350 : ∀ (fu : Nat) (ls : Nat → Option Value) (v324 : Int32) (v325 : Int32) (I335 : cz_I) (L336 : cz_L) (v338 : Int32) (v340 : Int32) (v342 : Int32), ls 0 = some (.ref a0) → ls 1 = some (.long y45) → ls 3 = some (.int v152) → ls 4 = some (.int v189) → ls 5 = some (.int v218) → ls 6 = some (.int v247) → ls 7 = some (.int v276) → ls 8 = some (.int v324) → ls 9 = some (.int v325) → St T cn K N 0 wi_X12_readTurner wr_X12_readTurner I0 R0 I335 R0 → I335 a0 9 = v338 → I335 a0 8 = v340 → I335 a0 13 = v342 → (v3.toInt = 5 → v338.toInt = 5) → v340.toInt ≥ v6.toInt → ((2 ≤ v338.toInt ∧ v338.toInt ≤ 4) → v340.toInt ≥ v6.toInt + 1) → ((v3.toInt = 5 → v9.toInt ≥ 1) → (v338.toInt = 5 → v342.toInt ≥ 1)) → 0 ≤ v325.toInt → v325.toInt ≤ 1 → (-v340.toInt + v325.toInt + 900).toNat < fu → Tr X mX12_readTurner 159 ls [] cn K N I335 R0 L336 0 0 := by
              intro fu
              induction fu with
              | zero => intros; rename_i hz; exact absurd hz (Nat.not_lt_zero _)
              | succ fu ih350 =>
                intro ls v324 v325 I335 L336 v338 v340 v342 hl326 hl327 hl328 hl329 hl330 hl331 hl332 hl333 hl334 hS337 c339 c341 c343 g344 g345 g346 g347 g348 g349 hm350
                have b352 := iv15_9 hS337.1 ta0 c339
                have b353 := iv15_8 hS337.1 ta0 c341
                refine tr_iload dX12_readTurner_159 hl334 ?_
                refine q_if_eq 227 dX12_readTurner_161 (by decide) (fun h354 => ?_) (fun h354 => ?_)
                · skip
                  refine tr_aload_n dX12_readTurner_227 hl326 ?_
                  refine q_getI dX12_readTurner_228 fl12_99 (kR15 hS337.1 ta0) c339 ?_
                  refine q_iconst dX12_readTurner_231 (by decide) ?_
                  intro v355 h356
                  refine q_icmp_ne 236 dX12_readTurner_232 (by decide) (fun h357 => ?_) (fun h357 => ?_)
                  · skip
                    refine tr_aload_n dX12_readTurner_236 hl326 ?_
                    refine tr_getR dX12_readTurner_237 fl12_188 (kR15 hS337.1 ta0) d2 ?_
                    obtain ⟨v358, c359⟩ : ∃ v, I335 a1 4 = v := ⟨_, rfl⟩
                    have b360 := iv14_4 hS337.1 ta1 c359
                    refine q_getI dX12_readTurner_240 fl12_315 (kR14 hS337.1 ta1) c359 ?_
                    refine tr_istore dX12_readTurner_243 (by decide) (by decide) ?_
                    refine tr_aload_n dX12_readTurner_245 hl326 ?_
                    refine tr_lload_n dX12_readTurner_246 hl327 ?_
                    refine q_iconst dX12_readTurner_247 (by decide) ?_
                    intro v361 h362
                    refine tr_iload dX12_readTurner_248 rfl ?_
                    obtain ⟨v364, c365⟩ : ∃ v, I335 a1 7 = v := ⟨_, rfl⟩
                    have b366 := iv14_7 hS337.1 ta1 c365
                    obtain ⟨v367, c368⟩ : ∃ v, I0 a1 3 = v := ⟨_, rfl⟩
                    have b369 := iv14_3 hW0 ta1 c368
                    have p363 := hS337.1.2.2.2.2.1 a0 ta0 _ d2
                    rw [c365, ((hS337.cell ta1 (by decide +kernel)).trans c368), c359] at p363
                    refine q_callVv hE (M' := mX12_names) (as := [_, _, _]) dX12_readTurner_250 lk12_293 inX12_names seX12_names myX12_names (by decide) ⟨by decide, by decide⟩ rfl (kR15 hS337.1 ta0) (Nat.le_of_ble_eq_true rfl) rfl rfl (by decide) (by decide) (k_X12_names hS337.1 ta0 (fun q0 z0 => by obtain rfl := Option.some.inj ((d2).symm.trans z0); (try rw [c365]); (try omega)) ⟨_, d2⟩) ?_
                    rintro cn' K' N' I370 R371 L372 ⟨rfl, rfl, rfl, rfl, g373, -⟩
                    have hS375 := hS337.tr g373 (by decide +kernel) (by decide +kernel)
                    have c376 : I370 a0 9 = v338 := (g373.cell ta0 (by decide +kernel)).trans c339
                    have c377 : I370 a0 8 = v340 := (g373.cell ta0 (by decide +kernel)).trans c341
                    have c378 : I370 a0 13 = v342 := (g373.cell ta0 (by decide +kernel)).trans c343
                    have c379 : I370 a1 4 = v358 := (g373.cell ta1 (by decide +kernel)).trans c359
                    refine tr_aload_n dX12_readTurner_253 hl326 ?_
                    refine tr_getR dX12_readTurner_254 fl12_188 (kR15 hS375.1 ta0) d2 ?_
                    obtain ⟨a380, d381, ta380⟩ := rf14_20 hW0 ta1
                    refine tr_getR dX12_readTurner_257 fl12_333 (kR14 hS375.1 ta1) d381 ?_
                    refine tr_iload dX12_readTurner_260 rfl ?_
                    refine tr_iload_n dX12_readTurner_262 hl328 ?_
                    refine q_iast dX12_readTurner_263 (kR63 hS375.1 ta380) (ti_in (nR63 hS375.1 ta380) (by omega) (by omega)) hS375 ta380 (iokF rfl) rfl (by rfl) ?_
                    intro I382 hS383 e385 f384
                    have c386 : I382 a0 9 = v338 := (f384 _ _ (fun q => by have z := ta0; rw [q.1, ta380] at z; exact absurd z (by decide))).trans c376
                    have c387 : I382 a0 8 = v340 := (f384 _ _ (fun q => by have z := ta0; rw [q.1, ta380] at z; exact absurd z (by decide))).trans c377
                    have c388 : I382 a0 13 = v342 := (f384 _ _ (fun q => by have z := ta0; rw [q.1, ta380] at z; exact absurd z (by decide))).trans c378
                    have c389 : I382 a1 4 = v358 := (f384 _ _ (fun q => by have z := ta1; rw [q.1, ta380] at z; exact absurd z (by decide))).trans c379
                    refine tr_aload_n dX12_readTurner_264 hl326 ?_
                    refine tr_getR dX12_readTurner_265 fl12_188 (kR15 hS383.1 ta0) d2 ?_
                    obtain ⟨a390, d391, ta390⟩ := rf14_21 hW0 ta1
                    refine tr_getR dX12_readTurner_268 fl12_336 (kR14 hS383.1 ta1) d391 ?_
                    refine tr_iload dX12_readTurner_271 rfl ?_
                    refine tr_iload dX12_readTurner_273 hl329 ?_
                    refine q_iast dX12_readTurner_275 (kR64 hS383.1 ta390) (ti_in (nR64 hS383.1 ta390) (by omega) (by omega)) hS383 ta390 (iokF rfl) rfl (by rfl) ?_
                    intro I392 hS393 e395 f394
                    have c396 : I392 a0 9 = v338 := (f394 _ _ (fun q => by have z := ta0; rw [q.1, ta390] at z; exact absurd z (by decide))).trans c386
                    have c397 : I392 a0 8 = v340 := (f394 _ _ (fun q => by have z := ta0; rw [q.1, ta390] at z; exact absurd z (by decide))).trans c387
                    have c398 : I392 a0 13 = v342 := (f394 _ _ (fun q => by have z := ta0; rw [q.1, ta390] at z; exact absurd z (by decide))).trans c388
                    have c399 : I392 a1 4 = v358 := (f394 _ _ (fun q => by have z := ta1; rw [q.1, ta390] at z; exact absurd z (by decide))).trans c389
                    refine tr_aload_n dX12_readTurner_276 hl326 ?_
                    refine tr_getR dX12_readTurner_277 fl12_188 (kR15 hS393.1 ta0) d2 ?_
                    obtain ⟨a400, d401, ta400⟩ := rf14_22 hW0 ta1
                    refine tr_getR dX12_readTurner_280 fl12_339 (kR14 hS393.1 ta1) d401 ?_
                    refine tr_iload dX12_readTurner_283 rfl ?_
                    refine tr_iload dX12_readTurner_285 hl330 ?_
                    refine q_iast dX12_readTurner_287 (kR65 hS393.1 ta400) (ti_in (nR65 hS393.1 ta400) (by omega) (by omega)) hS393 ta400 (iokF rfl) rfl (by rfl) ?_
                    intro I402 hS403 e405 f404
                    have c406 : I402 a0 9 = v338 := (f404 _ _ (fun q => by have z := ta0; rw [q.1, ta400] at z; exact absurd z (by decide))).trans c396
                    have c407 : I402 a0 8 = v340 := (f404 _ _ (fun q => by have z := ta0; rw [q.1, ta400] at z; exact absurd z (by decide))).trans c397
                    have c408 : I402 a0 13 = v342 := (f404 _ _ (fun q => by have z := ta0; rw [q.1, ta400] at z; exact absurd z (by decide))).trans c398
                    have c409 : I402 a1 4 = v358 := (f404 _ _ (fun q => by have z := ta1; rw [q.1, ta400] at z; exact absurd z (by decide))).trans c399
                    refine tr_aload_n dX12_readTurner_288 hl326 ?_
                    refine tr_getR dX12_readTurner_289 fl12_188 (kR15 hS403.1 ta0) d2 ?_
                    obtain ⟨a410, d411, ta410⟩ := rf14_23 hW0 ta1
                    refine tr_getR dX12_readTurner_292 fl12_342 (kR14 hS403.1 ta1) d411 ?_
                    refine tr_iload dX12_readTurner_295 rfl ?_
                    refine tr_iload dX12_readTurner_297 hl331 ?_
                    refine q_iast dX12_readTurner_299 (kR66 hS403.1 ta410) (ti_in (nR66 hS403.1 ta410) (by omega) (by omega)) hS403 ta410 (iokF rfl) rfl (by rfl) ?_
                    intro I412 hS413 e415 f414
                    have c416 : I412 a0 9 = v338 := (f414 _ _ (fun q => by have z := ta0; rw [q.1, ta410] at z; exact absurd z (by decide))).trans c406
                    have c417 : I412 a0 8 = v340 := (f414 _ _ (fun q => by have z := ta0; rw [q.1, ta410] at z; exact absurd z (by decide))).trans c407
                    have c418 : I412 a0 13 = v342 := (f414 _ _ (fun q => by have z := ta0; rw [q.1, ta410] at z; exact absurd z (by decide))).trans c408
                    have c419 : I412 a1 4 = v358 := (f414 _ _ (fun q => by have z := ta1; rw [q.1, ta410] at z; exact absurd z (by decide))).trans c409
                    refine tr_aload_n dX12_readTurner_300 hl326 ?_
                    refine tr_getR dX12_readTurner_301 fl12_188 (kR15 hS413.1 ta0) d2 ?_
                    obtain ⟨a420, d421, ta420⟩ := rf14_24 hW0 ta1
                    refine tr_getR dX12_readTurner_304 fl12_344 (kR14 hS413.1 ta1) d421 ?_
                    refine tr_iload dX12_readTurner_307 rfl ?_
                    refine tr_iload dX12_readTurner_309 hl332 ?_
                    refine q_iast dX12_readTurner_311 (kR67 hS413.1 ta420) (ti_in (nR67 hS413.1 ta420) (by omega) (by omega)) hS413 ta420 (iokF rfl) rfl (by rfl) ?_
                    intro I422 hS423 e425 f424
                    have c426 : I422 a0 9 = v338 := (f424 _ _ (fun q => by have z := ta0; rw [q.1, ta420] at z; exact absurd z (by decide))).trans c416
                    have c427 : I422 a0 8 = v340 := (f424 _ _ (fun q => by have z := ta0; rw [q.1, ta420] at z; exact absurd z (by decide))).trans c417
                    have c428 : I422 a0 13 = v342 := (f424 _ _ (fun q => by have z := ta0; rw [q.1, ta420] at z; exact absurd z (by decide))).trans c418
                    have c429 : I422 a1 4 = v358 := (f424 _ _ (fun q => by have z := ta1; rw [q.1, ta420] at z; exact absurd z (by decide))).trans c419
                    refine tr_aload_n dX12_readTurner_312 hl326 ?_
                    refine tr_getR dX12_readTurner_313 fl12_188 (kR15 hS423.1 ta0) d2 ?_
                    obtain ⟨a430, d431, ta430⟩ := rf14_25 hW0 ta1
                    refine tr_getR dX12_readTurner_316 fl12_346 (kR14 hS423.1 ta1) d431 ?_
                    refine tr_iload dX12_readTurner_319 rfl ?_
                    refine tr_iload dX12_readTurner_321 hl333 ?_
                    refine q_iast dX12_readTurner_323 (kR68 hS423.1 ta430) (ti_in (nR68 hS423.1 ta430) (by omega) (by omega)) hS423 ta430 (iokF rfl) rfl (by rfl) ?_
                    intro I432 hS433 e435 f434
                    have c436 : I432 a0 9 = v338 := (f434 _ _ (fun q => by have z := ta0; rw [q.1, ta430] at z; exact absurd z (by decide))).trans c426
                    have c437 : I432 a0 8 = v340 := (f434 _ _ (fun q => by have z := ta0; rw [q.1, ta430] at z; exact absurd z (by decide))).trans c427
                    have c438 : I432 a0 13 = v342 := (f434 _ _ (fun q => by have z := ta0; rw [q.1, ta430] at z; exact absurd z (by decide))).trans c428
                    have c439 : I432 a1 4 = v358 := (f434 _ _ (fun q => by have z := ta1; rw [q.1, ta430] at z; exact absurd z (by decide))).trans c429
                    refine tr_aload_n dX12_readTurner_324 hl326 ?_
                    refine tr_getR dX12_readTurner_325 fl12_188 (kR15 hS433.1 ta0) d2 ?_
                    refine tr_dup dX12_readTurner_328 rfl ?_
                    refine q_getI dX12_readTurner_329 fl12_315 (kR14 hS433.1 ta1) c439 ?_
                    refine q_iconst dX12_readTurner_332 (by decide) ?_
                    intro v440 h441
                    refine q_iaddE dX12_readTurner_333 (by intros; omega) ?_
                    intro v442 h443
                    refine q_putX dX12_readTurner_334 fl12_315 (kR14 hS433.1 ta1) (Or.inl rfl) hS433 ta1 (by decide +kernel) (hS433.1.putN (d' := 0) ta0 d2 (Or.inr (Or.inr rfl)) (by rw [c439]; omega) (by decide) (by show (0 : Int) ≤ v442.toInt ∧ v442.toInt ≤ (5 : Int); omega)) ?_
                    intro I444 hS445 e446 f447
                    have c448 : I444 a0 9 = v338 := (f447 _ _ (fun q => absurd q.2 (by decide))).trans c436
                    have c449 : I444 a0 8 = v340 := (f447 _ _ (fun q => absurd q.2 (by decide))).trans c437
                    have c450 : I444 a0 13 = v342 := (f447 _ _ (fun q => absurd q.2 (by decide))).trans c438
                    exact tr_vret hZ dX12_readTurner_337 rfl (by decide) (by decide) ⟨rfl, rfl, rfl, rfl, rfl, hS445, (by (try rw [c4]); (try rw [c448]); (try omega)), (by (try rw [c449]); (try rw [c7]); (try omega)), (by (try rw [c448]); (try rw [c449]); (try rw [c7]); (try omega)), (by (try rw [c4]); (try rw [c10]); (try rw [c448]); (try rw [c450]); (try omega)), trivial⟩
                  · skip
                    exact tr_vret hZ dX12_readTurner_235 rfl (by decide) (by decide) ⟨rfl, rfl, rfl, rfl, rfl, hS337, (by (try rw [c4]); (try rw [c339]); (try omega)), (by (try rw [c341]); (try rw [c7]); (try omega)), (by (try rw [c339]); (try rw [c341]); (try rw [c7]); (try omega)), (by (try rw [c4]); (try rw [c10]); (try rw [c339]); (try rw [c343]); (try omega)), trivial⟩
                · skip
                  refine tr_aload_n dX12_readTurner_164 hl326 ?_
                  refine q_getI dX12_readTurner_165 fl12_99 (kR15 hS337.1 ta0) c339 ?_
                  refine q_iconst dX12_readTurner_168 (by decide) ?_
                  intro v451 h452
                  refine q_icmp_eq 227 dX12_readTurner_169 (by decide) (fun h453 => ?_) (fun h453 => ?_)
                  · skip
                    refine tr_aload_n dX12_readTurner_227 hl326 ?_
                    refine q_getI dX12_readTurner_228 fl12_99 (kR15 hS337.1 ta0) c339 ?_
                    refine q_iconst dX12_readTurner_231 (by decide) ?_
                    intro v454 h455
                    refine q_icmp_ne 236 dX12_readTurner_232 (by decide) (fun h456 => ?_) (fun h456 => ?_)
                    · skip
                      exfalso; omega
                    · skip
                      exact tr_vret hZ dX12_readTurner_235 rfl (by decide) (by decide) ⟨rfl, rfl, rfl, rfl, rfl, hS337, (by (try rw [c4]); (try rw [c339]); (try omega)), (by (try rw [c341]); (try rw [c7]); (try omega)), (by (try rw [c339]); (try rw [c341]); (try rw [c7]); (try omega)), (by (try rw [c4]); (try rw [c10]); (try rw [c339]); (try rw [c343]); (try omega)), trivial⟩
                  · skip
                    refine tr_aload_n dX12_readTurner_172 hl326 ?_
                    refine q_iconst dX12_readTurner_173 (by decide) ?_
                    intro v457 h458
                    refine tr_aload_n dX12_readTurner_174 hl326 ?_
                    refine tr_getR dX12_readTurner_175 fl12_188 (kR15 hS337.1 ta0) d2 ?_
                    obtain ⟨v459, c460⟩ : ∃ v, I0 a1 1 = v := ⟨_, rfl⟩
                    have b461 := iv14_1 hW0 ta1 c460
                    refine q_getI dX12_readTurner_178 fl12_263 (kR14 hS337.1 ta1) ((hS337.cell ta1 (by decide +kernel)).trans c460) ?_
                    refine q_iconst dX12_readTurner_181 (by decide) ?_
                    intro v462 h463
                    refine q_isubE dX12_readTurner_182 (by intros; omega) ?_
                    intro v464 h465
                    refine q_callVi hE (M' := mX12_bounded) (as := [_, _]) dX12_readTurner_183 lk12_153 inX12_bounded seX12_bounded myX12_bounded (by decide) ⟨by decide, by decide⟩ rfl (kR15 hS337.1 ta0) (Nat.le_of_ble_eq_true rfl) rfl rfl (by decide) (by decide) (k_X12_bounded hS337.1 ta0) ?_
                    rintro v470 cn' K' N' I466 R467 L468 ⟨rfl, rfl, rfl, rfl, rfl, g469, p471, p472, p473, p474, -⟩
                    have hS475 := hS337.tr g469 (by decide +kernel) (by decide +kernel)
                    have c476 : I466 a0 8 = v340 := (g469.cell ta0 (by decide +kernel)).trans c341
                    obtain ⟨v477, c478⟩ : ∃ v, I466 a0 9 = v := ⟨_, rfl⟩
                    have b479 := iv15_9 hS475.1 ta0 c478
                    have p480 := p471
                    rw [c339] at p480
                    rw [c478] at p480
                    have p481 := p472
                    have p482 := p473
                    rw [c478] at p482
                    rw [c339] at p482
                    obtain ⟨v483, c484⟩ : ∃ v, I466 a0 13 = v := ⟨_, rfl⟩
                    have p485 := p474
                    rw [c339] at p485
                    rw [c343] at p485
                    rw [c478] at p485
                    rw [c484] at p485
                    refine tr_istore dX12_readTurner_186 (by decide) (by decide) ?_
                    refine tr_iload dX12_readTurner_188 hl333 ?_
                    refine tr_iload dX12_readTurner_190 rfl ?_
                    refine q_callSi hE (M' := mX12_has) (as := [_, _]) dX12_readTurner_192 lk12_329 inX12_has myX12_has ⟨by decide, by decide⟩ rfl (Nat.le_of_ble_eq_true rfl) rfl rfl (by decide) (by decide) (k_X12_has hS475.1 ) ?_
                    rintro v490 cn' K' N' I486 R487 L488 ⟨rfl, rfl, rfl, rfl, rfl, rfl, h491, -⟩
                    refine q_if_eq 203 dX12_readTurner_195 (by decide) (fun h492 => ?_) (fun h492 => ?_)
                    · skip
                      refine tr_aload_n dX12_readTurner_203 hl326 ?_
                      refine q_callVv hE (M' := mX12_goesOn) (as := []) dX12_readTurner_204 lk12_142 inX12_goesOn seX12_goesOn myX12_goesOn (by decide) ⟨by decide, by decide⟩ rfl (kR15 hS475.1 ta0) (Nat.le_of_ble_eq_true rfl) rfl rfl (by decide) (by decide) (k_X12_goesOn hS475.1 ta0) ?_
                      rintro cn' K' N' I493 R494 L495 ⟨rfl, rfl, rfl, rfl, g496, p498, p499, p500, p501, -⟩
                      have hS502 := hS475.tr g496 (by decide +kernel) (by decide +kernel)
                      have c503 : I493 a0 13 = v483 := (g496.cell ta0 (by decide +kernel)).trans c484
                      obtain ⟨v504, c505⟩ : ∃ v, I493 a0 9 = v := ⟨_, rfl⟩
                      have b506 := iv15_9 hS502.1 ta0 c505
                      obtain ⟨v507, c508⟩ : ∃ v, I493 a0 8 = v := ⟨_, rfl⟩
                      have b509 := iv15_8 hS502.1 ta0 c508
                      have p510 := p498
                      rw [c478] at p510
                      rw [c505] at p510
                      rw [c508] at p510
                      rw [c476] at p510
                      have p511 := p499
                      rw [c478] at p511
                      rw [c505] at p511
                      have p512 := p500
                      rw [c508] at p512
                      rw [c476] at p512
                      have p513 := p501
                      rw [c478] at p513
                      rw [c505] at p513
                      rw [c508] at p513
                      rw [c476] at p513
                      refine tr_iload dX12_readTurner_207 hl333 ?_
                      refine q_iconst dX12_readTurner_209 (by decide) ?_
                      intro v514 h515
                      refine tr_iload dX12_readTurner_210 rfl ?_
                      refine q_ishlE dX12_readTurner_212 (by omega) (by omega) ?_
                      intro v516 h517
                      refine q_ior dX12_readTurner_213 ?_
                      intro v518
                      refine tr_istore dX12_readTurner_214 (by decide) (by decide) ?_
                      refine tr_aload_n dX12_readTurner_216 hl326 ?_
                      refine q_bipush dX12_readTurner_217 (by decide +kernel) ?_
                      intro v519 h520
                      refine q_callVi hE (M' := mX12_eatsSign) (as := [_]) dX12_readTurner_219 lk12_221 inX12_eatsSign seX12_eatsSign myX12_eatsSign (by decide) ⟨by decide, by decide⟩ rfl (kR15 hS502.1 ta0) (Nat.le_of_ble_eq_true rfl) rfl rfl (by decide) (by decide) (k_X12_eatsSign hS502.1 ta0) ?_
                      rintro v525 cn' K' N' I521 R522 L523 ⟨rfl, rfl, rfl, rfl, g524, h526, p527, p528, p529, -⟩
                      have hS530 := hS502.tr g524 (by decide +kernel) (by decide +kernel)
                      have c531 : I521 a0 13 = v483 := (g524.cell ta0 (by decide +kernel)).trans c503
                      obtain ⟨v532, c533⟩ : ∃ v, I521 a0 9 = v := ⟨_, rfl⟩
                      have b534 := iv15_9 hS530.1 ta0 c533
                      obtain ⟨v535, c536⟩ : ∃ v, I521 a0 8 = v := ⟨_, rfl⟩
                      have b537 := iv15_8 hS530.1 ta0 c536
                      have p538 := p527
                      rw [c533] at p538
                      rw [c505] at p538
                      rw [c536] at p538
                      rw [c508] at p538
                      have p539 := p528
                      rw [c505] at p539
                      rw [c533] at p539
                      rw [c536] at p539
                      rw [c508] at p539
                      have p540 := p529
                      rw [c533] at p540
                      rw [c536] at p540
                      rw [c508] at p540
                      refine tr_istore dX12_readTurner_222 (by decide) (by decide) ?_
                      refine tr_goto 159 dX12_readTurner_224 (by decide) ?_
                      exact ih350 _ v518 v525 I521 L523 v532 v535 v483 hl326 hl327 hl328 hl329 hl330 hl331 hl332 rfl rfl hS530 c533 c536 c531 (by omega) (by omega) (by omega) (by omega) (by omega) (by omega) (by omega)
                    · skip
                      refine tr_aload_n dX12_readTurner_198 hl326 ?_
                      refine q_iconst dX12_readTurner_199 (by decide) ?_
                      intro v541 h542
                      refine q_callVv hE (M' := mX12_flaw) (as := [_]) dX12_readTurner_200 lk12_145 inX12_flaw seX12_flaw myX12_flaw (by decide) ⟨by decide, by decide⟩ rfl (kR15 hS475.1 ta0) (Nat.le_of_ble_eq_true rfl) rfl rfl (by decide) (by decide) (k_X12_flaw hS475.1 ta0 (by omega)) ?_
                      rintro cn' K' N' I543 R544 L545 ⟨rfl, rfl, rfl, rfl, rfl, g546, p548, p549, -⟩
                      have hS550 := hS475.tr g546 (by decide +kernel) (by decide +kernel)
                      have c551 : I543 a0 8 = v340 := (g546.cell ta0 (by decide +kernel)).trans c476
                      obtain ⟨v552, c553⟩ : ∃ v, I543 a0 9 = v := ⟨_, rfl⟩
                      have b554 := iv15_9 hS550.1 ta0 c553
                      have p555 := p548
                      rw [c553] at p555
                      obtain ⟨v556, c557⟩ : ∃ v, I543 a0 13 = v := ⟨_, rfl⟩
                      have p558 := p549
                      rw [c478] at p558
                      rw [c484] at p558
                      rw [c557] at p558
                      refine tr_aload_n dX12_readTurner_203 hl326 ?_
                      refine q_callVv hE (M' := mX12_goesOn) (as := []) dX12_readTurner_204 lk12_142 inX12_goesOn seX12_goesOn myX12_goesOn (by decide) ⟨by decide, by decide⟩ rfl (kR15 hS550.1 ta0) (Nat.le_of_ble_eq_true rfl) rfl rfl (by decide) (by decide) (k_X12_goesOn hS550.1 ta0) ?_
                      rintro cn' K' N' I559 R560 L561 ⟨rfl, rfl, rfl, rfl, g562, p564, p565, p566, p567, -⟩
                      have hS568 := hS550.tr g562 (by decide +kernel) (by decide +kernel)
                      have c569 : I559 a0 13 = v556 := (g562.cell ta0 (by decide +kernel)).trans c557
                      obtain ⟨v570, c571⟩ : ∃ v, I559 a0 9 = v := ⟨_, rfl⟩
                      have b572 := iv15_9 hS568.1 ta0 c571
                      obtain ⟨v573, c574⟩ : ∃ v, I559 a0 8 = v := ⟨_, rfl⟩
                      have b575 := iv15_8 hS568.1 ta0 c574
                      have p576 := p564
                      rw [c553] at p576
                      rw [c571] at p576
                      rw [c574] at p576
                      rw [c551] at p576
                      have p577 := p565
                      rw [c553] at p577
                      rw [c571] at p577
                      have p578 := p566
                      rw [c574] at p578
                      rw [c551] at p578
                      have p579 := p567
                      rw [c553] at p579
                      rw [c571] at p579
                      rw [c574] at p579
                      rw [c551] at p579
                      refine tr_iload dX12_readTurner_207 hl333 ?_
                      refine q_iconst dX12_readTurner_209 (by decide) ?_
                      intro v580 h581
                      refine tr_iload dX12_readTurner_210 rfl ?_
                      refine q_ishlE dX12_readTurner_212 (by omega) (by omega) ?_
                      intro v582 h583
                      refine q_ior dX12_readTurner_213 ?_
                      intro v584
                      refine tr_istore dX12_readTurner_214 (by decide) (by decide) ?_
                      refine tr_aload_n dX12_readTurner_216 hl326 ?_
                      refine q_bipush dX12_readTurner_217 (by decide +kernel) ?_
                      intro v585 h586
                      refine q_callVi hE (M' := mX12_eatsSign) (as := [_]) dX12_readTurner_219 lk12_221 inX12_eatsSign seX12_eatsSign myX12_eatsSign (by decide) ⟨by decide, by decide⟩ rfl (kR15 hS568.1 ta0) (Nat.le_of_ble_eq_true rfl) rfl rfl (by decide) (by decide) (k_X12_eatsSign hS568.1 ta0) ?_
                      rintro v591 cn' K' N' I587 R588 L589 ⟨rfl, rfl, rfl, rfl, g590, h592, p593, p594, p595, -⟩
                      have hS596 := hS568.tr g590 (by decide +kernel) (by decide +kernel)
                      have c597 : I587 a0 13 = v556 := (g590.cell ta0 (by decide +kernel)).trans c569
                      obtain ⟨v598, c599⟩ : ∃ v, I587 a0 9 = v := ⟨_, rfl⟩
                      have b600 := iv15_9 hS596.1 ta0 c599
                      obtain ⟨v601, c602⟩ : ∃ v, I587 a0 8 = v := ⟨_, rfl⟩
                      have b603 := iv15_8 hS596.1 ta0 c602
                      have p604 := p593
                      rw [c599] at p604
                      rw [c571] at p604
                      rw [c602] at p604
                      rw [c574] at p604
                      have p605 := p594
                      rw [c571] at p605
                      rw [c599] at p605
                      rw [c602] at p605
                      rw [c574] at p605
                      have p606 := p595
                      rw [c599] at p606
                      rw [c602] at p606
                      rw [c574] at p606
                      refine tr_istore dX12_readTurner_222 (by decide) (by decide) ?_
                      refine tr_goto 159 dX12_readTurner_224 (by decide) ?_
                      exact ih350 _ v584 v591 I587 L589 v598 v601 v556 hl326 hl327 hl328 hl329 hl330 hl331 hl332 rfl rfl hS596 c599 c602 c597 (by omega) (by omega) (by omega) (by omega) (by omega) (by omega) (by omega)
            exact lp350 _ _ v320 v322 I297 L299 v308 v312 v317 rfl rfl rfl rfl rfl rfl rfl rfl rfl hS306 c309 c313 c318 (by omega) (by omega) (by omega) (by omega) (by omega) (by omega) (Nat.lt_succ_self _)
        · skip
          refine q_iconst dX12_readTurner_68 (by decide) ?_
          intro v607 h608
          refine tr_goto 73 dX12_readTurner_69 (by decide) ?_
          refine tr_istore_n dX12_readTurner_73 (by decide) (by decide) ?_
          refine tr_iload_n dX12_readTurner_74 rfl ?_
          refine q_iconst dX12_readTurner_75 (by decide) ?_
          intro v609 h610
          refine q_icmp_ne 84 dX12_readTurner_76 (by decide) (fun h611 => ?_) (fun h611 => ?_)
          · skip
            refine tr_aload_n dX12_readTurner_84 rfl ?_
            refine tr_ldcwS dX12_readTurner_85 ld12_324 ?_
            refine q_iconst dX12_readTurner_88 (by decide) ?_
            intro v612 h613
            refine tr_aload_n dX12_readTurner_89 rfl ?_
            refine tr_getR dX12_readTurner_90 fl12_188 (kR15 hS139.1 ta0) d2 ?_
            obtain ⟨v614, c615⟩ : ∃ v, I0 a1 0 = v := ⟨_, rfl⟩
            have b616 := iv14_0 hW0 ta1 c615
            refine q_getI dX12_readTurner_93 fl12_192 (kR14 hS139.1 ta1) ((hS139.cell ta1 (by decide +kernel)).trans c615) ?_
            refine q_iconst dX12_readTurner_96 (by decide) ?_
            intro v617 h618
            refine q_isubE dX12_readTurner_97 (by intros; omega) ?_
            intro v619 h620
            refine q_callVi hE (M' := mX12_readPart) (as := [_, _, _]) dX12_readTurner_98 lk12_249 inX12_readPart seX12_readPart myX12_readPart (by decide) ⟨by decide, by decide⟩ rfl (kR15 hS139.1 ta0) (Nat.le_of_ble_eq_true rfl) rfl rfl (by decide) (by decide) (k_X12_readPart hS139.1 ta0 (by decide)) ?_
            rintro v625 cn' K' N' I621 R622 L623 ⟨rfl, rfl, rfl, rfl, g624, p626, p627, p628, p629, p630, -⟩
            have hS631 := hS139.tr g624 (by decide +kernel) (by decide +kernel)
            have c632 : I621 a1 4 = v11 := (g624.cell ta1 (by decide +kernel)).trans c140
            obtain ⟨v633, c634⟩ : ∃ v, I621 a0 9 = v := ⟨_, rfl⟩
            have b635 := iv15_9 hS631.1 ta0 c634
            have p636 := p626
            rw [c143] at p636
            rw [c634] at p636
            obtain ⟨v637, c638⟩ : ∃ v, I621 a0 8 = v := ⟨_, rfl⟩
            have b639 := iv15_8 hS631.1 ta0 c638
            have p640 := p627
            rw [c638] at p640
            rw [c146] at p640
            have p641 := p628
            rw [c634] at p641
            rw [c638] at p641
            rw [c146] at p641
            obtain ⟨v642, c643⟩ : ∃ v, I621 a0 13 = v := ⟨_, rfl⟩
            have p644 := p629
            rw [c143] at p644
            rw [c141] at p644
            rw [c634] at p644
            rw [c643] at p644
            have p645 := p630
            refine tr_istore dX12_readTurner_101 (by decide) (by decide) ?_
            refine tr_aload_n dX12_readTurner_103 rfl ?_
            refine tr_ldcwS dX12_readTurner_104 ld12_272 ?_
            refine tr_iload dX12_readTurner_107 rfl ?_
            refine q_iconst dX12_readTurner_109 (by decide) ?_
            intro v646 h647
            refine q_iaddE dX12_readTurner_110 (by intros; omega) ?_
            intro v648 h649
            refine tr_aload_n dX12_readTurner_111 rfl ?_
            refine tr_getR dX12_readTurner_112 fl12_188 (kR15 hS631.1 ta0) d2 ?_
            refine q_getI dX12_readTurner_115 fl12_192 (kR14 hS631.1 ta1) ((hS631.cell ta1 (by decide +kernel)).trans c615) ?_
            refine q_callVi hE (M' := mX12_readPart) (as := [_, _, _]) dX12_readTurner_118 lk12_249 inX12_readPart seX12_readPart myX12_readPart (by decide) ⟨by decide, by decide⟩ rfl (kR15 hS631.1 ta0) (Nat.le_of_ble_eq_true rfl) rfl rfl (by decide) (by decide) (k_X12_readPart hS631.1 ta0 (by decide)) ?_
            rintro v654 cn' K' N' I650 R651 L652 ⟨rfl, rfl, rfl, rfl, g653, p655, p656, p657, p658, p659, -⟩
            have hS660 := hS631.tr g653 (by decide +kernel) (by decide +kernel)
            have c661 : I650 a1 4 = v11 := (g653.cell ta1 (by decide +kernel)).trans c632
            obtain ⟨v662, c663⟩ : ∃ v, I650 a0 9 = v := ⟨_, rfl⟩
            have b664 := iv15_9 hS660.1 ta0 c663
            have p665 := p655
            rw [c634] at p665
            rw [c663] at p665
            obtain ⟨v666, c667⟩ : ∃ v, I650 a0 8 = v := ⟨_, rfl⟩
            have b668 := iv15_8 hS660.1 ta0 c667
            have p669 := p656
            rw [c667] at p669
            rw [c638] at p669
            have p670 := p657
            rw [c663] at p670
            rw [c667] at p670
            rw [c638] at p670
            obtain ⟨v671, c672⟩ : ∃ v, I650 a0 13 = v := ⟨_, rfl⟩
            have p673 := p658
            rw [c634] at p673
            rw [c643] at p673
            rw [c663] at p673
            rw [c672] at p673
            have p674 := p659
            refine tr_istore dX12_readTurner_121 (by decide) (by decide) ?_
            refine tr_aload_n dX12_readTurner_123 rfl ?_
            refine tr_ldcwS dX12_readTurner_124 ld12_325 ?_
            refine q_iconst dX12_readTurner_127 (by decide) ?_
            intro v675 h676
            refine q_bipush dX12_readTurner_128 (by decide +kernel) ?_
            intro v677 h678
            refine q_callVi hE (M' := mX12_readPart) (as := [_, _, _]) dX12_readTurner_130 lk12_249 inX12_readPart seX12_readPart myX12_readPart (by decide) ⟨by decide, by decide⟩ rfl (kR15 hS660.1 ta0) (Nat.le_of_ble_eq_true rfl) rfl rfl (by decide) (by decide) (k_X12_readPart hS660.1 ta0 (by decide)) ?_
            rintro v683 cn' K' N' I679 R680 L681 ⟨rfl, rfl, rfl, rfl, g682, p684, p685, p686, p687, p688, -⟩
            have hS689 := hS660.tr g682 (by decide +kernel) (by decide +kernel)
            have c690 : I679 a1 4 = v11 := (g682.cell ta1 (by decide +kernel)).trans c661
            obtain ⟨v691, c692⟩ : ∃ v, I679 a0 9 = v := ⟨_, rfl⟩
            have b693 := iv15_9 hS689.1 ta0 c692
            have p694 := p684
            rw [c663] at p694
            rw [c692] at p694
            obtain ⟨v695, c696⟩ : ∃ v, I679 a0 8 = v := ⟨_, rfl⟩
            have b697 := iv15_8 hS689.1 ta0 c696
            have p698 := p685
            rw [c696] at p698
            rw [c667] at p698
            have p699 := p686
            rw [c692] at p699
            rw [c696] at p699
            rw [c667] at p699
            obtain ⟨v700, c701⟩ : ∃ v, I679 a0 13 = v := ⟨_, rfl⟩
            have p702 := p687
            rw [c663] at p702
            rw [c672] at p702
            rw [c692] at p702
            rw [c701] at p702
            have p703 := p688
            refine tr_istore dX12_readTurner_133 (by decide) (by decide) ?_
            refine tr_aload_n dX12_readTurner_135 rfl ?_
            refine tr_ldcwS dX12_readTurner_136 ld12_327 ?_
            refine q_iconst dX12_readTurner_139 (by decide) ?_
            intro v704 h705
            refine q_bipush dX12_readTurner_140 (by decide +kernel) ?_
            intro v706 h707
            refine q_callVi hE (M' := mX12_readPart) (as := [_, _, _]) dX12_readTurner_142 lk12_249 inX12_readPart seX12_readPart myX12_readPart (by decide) ⟨by decide, by decide⟩ rfl (kR15 hS689.1 ta0) (Nat.le_of_ble_eq_true rfl) rfl rfl (by decide) (by decide) (k_X12_readPart hS689.1 ta0 (by decide)) ?_
            rintro v712 cn' K' N' I708 R709 L710 ⟨rfl, rfl, rfl, rfl, g711, p713, p714, p715, p716, p717, -⟩
            have hS718 := hS689.tr g711 (by decide +kernel) (by decide +kernel)
            have c719 : I708 a1 4 = v11 := (g711.cell ta1 (by decide +kernel)).trans c690
            obtain ⟨v720, c721⟩ : ∃ v, I708 a0 9 = v := ⟨_, rfl⟩
            have b722 := iv15_9 hS718.1 ta0 c721
            have p723 := p713
            rw [c692] at p723
            rw [c721] at p723
            obtain ⟨v724, c725⟩ : ∃ v, I708 a0 8 = v := ⟨_, rfl⟩
            have b726 := iv15_8 hS718.1 ta0 c725
            have p727 := p714
            rw [c725] at p727
            rw [c696] at p727
            have p728 := p715
            rw [c721] at p728
            rw [c725] at p728
            rw [c696] at p728
            obtain ⟨v729, c730⟩ : ∃ v, I708 a0 13 = v := ⟨_, rfl⟩
            have p731 := p716
            rw [c692] at p731
            rw [c701] at p731
            rw [c721] at p731
            rw [c730] at p731
            have p732 := p717
            refine tr_istore dX12_readTurner_145 (by decide) (by decide) ?_
            refine tr_aload_n dX12_readTurner_147 rfl ?_
            refine tr_ldcS dX12_readTurner_148 ld12_253 ?_
            refine q_callVv hE (M' := mX12_needs) (as := [_]) dX12_readTurner_150 lk12_157 inX12_needs seX12_needs myX12_needs (by decide) ⟨by decide, by decide⟩ rfl (kR15 hS718.1 ta0) (Nat.le_of_ble_eq_true rfl) rfl rfl (by decide) (by decide) (k_X12_needs hS718.1 ta0 (by decide)) ?_
            rintro cn' K' N' I733 R734 L735 ⟨rfl, rfl, rfl, rfl, g736, p738, p739, p740, p741, -⟩
            have hS742 := hS718.tr g736 (by decide +kernel) (by decide +kernel)
            have c743 : I733 a1 4 = v11 := (g736.cell ta1 (by decide +kernel)).trans c719
            obtain ⟨v744, c745⟩ : ∃ v, I733 a0 9 = v := ⟨_, rfl⟩
            have b746 := iv15_9 hS742.1 ta0 c745
            have p747 := p738
            rw [c721] at p747
            rw [c745] at p747
            obtain ⟨v748, c749⟩ : ∃ v, I733 a0 8 = v := ⟨_, rfl⟩
            have b750 := iv15_8 hS742.1 ta0 c749
            have p751 := p739
            rw [c749] at p751
            rw [c725] at p751
            have p752 := p740
            rw [c745] at p752
            rw [c749] at p752
            rw [c725] at p752
            obtain ⟨v753, c754⟩ : ∃ v, I733 a0 13 = v := ⟨_, rfl⟩
            have p755 := p741
            rw [c721] at p755
            rw [c730] at p755
            rw [c745] at p755
            rw [c754] at p755
            refine q_iconst dX12_readTurner_153 (by decide) ?_
            intro v756 h757
            refine tr_istore dX12_readTurner_154 (by decide) (by decide) ?_
            refine q_iconst dX12_readTurner_156 (by decide) ?_
            intro v758 h759
            refine tr_istore dX12_readTurner_157 (by decide) (by decide) ?_
            have lp786 : ∀ (fu : Nat) (ls : Nat → Option Value) (v760 : Int32) (v761 : Int32) (I771 : cz_I) (L772 : cz_L) (v774 : Int32) (v776 : Int32) (v778 : Int32), ls 0 = some (.ref a0) → ls 1 = some (.long y45) → ls 3 = some (.int v607) → ls 4 = some (.int v625) → ls 5 = some (.int v654) → ls 6 = some (.int v683) → ls 7 = some (.int v712) → ls 8 = some (.int v760) → ls 9 = some (.int v761) → St T cn K N 0 wi_X12_readTurner wr_X12_readTurner I0 R0 I771 R0 → I771 a0 9 = v774 → I771 a0 8 = v776 → I771 a0 13 = v778 → (v3.toInt = 5 → v774.toInt = 5) → v776.toInt ≥ v6.toInt → ((2 ≤ v774.toInt ∧ v774.toInt ≤ 4) → v776.toInt ≥ v6.toInt + 1) → ((v3.toInt = 5 → v9.toInt ≥ 1) → (v774.toInt = 5 → v778.toInt ≥ 1)) → 0 ≤ v761.toInt → v761.toInt ≤ 1 → (-v776.toInt + v761.toInt + 900).toNat < fu → Tr X mX12_readTurner 159 ls [] cn K N I771 R0 L772 0 0 := by
              intro fu
              induction fu with
              | zero => intros; rename_i hz; exact absurd hz (Nat.not_lt_zero _)
              | succ fu ih786 =>
                intro ls v760 v761 I771 L772 v774 v776 v778 hl762 hl763 hl764 hl765 hl766 hl767 hl768 hl769 hl770 hS773 c775 c777 c779 g780 g781 g782 g783 g784 g785 hm786
                have b788 := iv15_9 hS773.1 ta0 c775
                have b789 := iv15_8 hS773.1 ta0 c777
                refine tr_iload dX12_readTurner_159 hl770 ?_
                refine q_if_eq 227 dX12_readTurner_161 (by decide) (fun h790 => ?_) (fun h790 => ?_)
                · skip
                  refine tr_aload_n dX12_readTurner_227 hl762 ?_
                  refine q_getI dX12_readTurner_228 fl12_99 (kR15 hS773.1 ta0) c775 ?_
                  refine q_iconst dX12_readTurner_231 (by decide) ?_
                  intro v791 h792
                  refine q_icmp_ne 236 dX12_readTurner_232 (by decide) (fun h793 => ?_) (fun h793 => ?_)
                  · skip
                    refine tr_aload_n dX12_readTurner_236 hl762 ?_
                    refine tr_getR dX12_readTurner_237 fl12_188 (kR15 hS773.1 ta0) d2 ?_
                    obtain ⟨v794, c795⟩ : ∃ v, I771 a1 4 = v := ⟨_, rfl⟩
                    have b796 := iv14_4 hS773.1 ta1 c795
                    refine q_getI dX12_readTurner_240 fl12_315 (kR14 hS773.1 ta1) c795 ?_
                    refine tr_istore dX12_readTurner_243 (by decide) (by decide) ?_
                    refine tr_aload_n dX12_readTurner_245 hl762 ?_
                    refine tr_lload_n dX12_readTurner_246 hl763 ?_
                    refine q_iconst dX12_readTurner_247 (by decide) ?_
                    intro v797 h798
                    refine tr_iload dX12_readTurner_248 rfl ?_
                    obtain ⟨v800, c801⟩ : ∃ v, I771 a1 7 = v := ⟨_, rfl⟩
                    have b802 := iv14_7 hS773.1 ta1 c801
                    obtain ⟨v803, c804⟩ : ∃ v, I0 a1 3 = v := ⟨_, rfl⟩
                    have b805 := iv14_3 hW0 ta1 c804
                    have p799 := hS773.1.2.2.2.2.1 a0 ta0 _ d2
                    rw [c801, ((hS773.cell ta1 (by decide +kernel)).trans c804), c795] at p799
                    refine q_callVv hE (M' := mX12_names) (as := [_, _, _]) dX12_readTurner_250 lk12_293 inX12_names seX12_names myX12_names (by decide) ⟨by decide, by decide⟩ rfl (kR15 hS773.1 ta0) (Nat.le_of_ble_eq_true rfl) rfl rfl (by decide) (by decide) (k_X12_names hS773.1 ta0 (fun q0 z0 => by obtain rfl := Option.some.inj ((d2).symm.trans z0); (try rw [c801]); (try omega)) ⟨_, d2⟩) ?_
                    rintro cn' K' N' I806 R807 L808 ⟨rfl, rfl, rfl, rfl, g809, -⟩
                    have hS811 := hS773.tr g809 (by decide +kernel) (by decide +kernel)
                    have c812 : I806 a0 9 = v774 := (g809.cell ta0 (by decide +kernel)).trans c775
                    have c813 : I806 a0 8 = v776 := (g809.cell ta0 (by decide +kernel)).trans c777
                    have c814 : I806 a0 13 = v778 := (g809.cell ta0 (by decide +kernel)).trans c779
                    have c815 : I806 a1 4 = v794 := (g809.cell ta1 (by decide +kernel)).trans c795
                    refine tr_aload_n dX12_readTurner_253 hl762 ?_
                    refine tr_getR dX12_readTurner_254 fl12_188 (kR15 hS811.1 ta0) d2 ?_
                    obtain ⟨a816, d817, ta816⟩ := rf14_20 hW0 ta1
                    refine tr_getR dX12_readTurner_257 fl12_333 (kR14 hS811.1 ta1) d817 ?_
                    refine tr_iload dX12_readTurner_260 rfl ?_
                    refine tr_iload_n dX12_readTurner_262 hl764 ?_
                    refine q_iast dX12_readTurner_263 (kR63 hS811.1 ta816) (ti_in (nR63 hS811.1 ta816) (by omega) (by omega)) hS811 ta816 (iokF rfl) rfl (by rfl) ?_
                    intro I818 hS819 e821 f820
                    have c822 : I818 a0 9 = v774 := (f820 _ _ (fun q => by have z := ta0; rw [q.1, ta816] at z; exact absurd z (by decide))).trans c812
                    have c823 : I818 a0 8 = v776 := (f820 _ _ (fun q => by have z := ta0; rw [q.1, ta816] at z; exact absurd z (by decide))).trans c813
                    have c824 : I818 a0 13 = v778 := (f820 _ _ (fun q => by have z := ta0; rw [q.1, ta816] at z; exact absurd z (by decide))).trans c814
                    have c825 : I818 a1 4 = v794 := (f820 _ _ (fun q => by have z := ta1; rw [q.1, ta816] at z; exact absurd z (by decide))).trans c815
                    refine tr_aload_n dX12_readTurner_264 hl762 ?_
                    refine tr_getR dX12_readTurner_265 fl12_188 (kR15 hS819.1 ta0) d2 ?_
                    obtain ⟨a826, d827, ta826⟩ := rf14_21 hW0 ta1
                    refine tr_getR dX12_readTurner_268 fl12_336 (kR14 hS819.1 ta1) d827 ?_
                    refine tr_iload dX12_readTurner_271 rfl ?_
                    refine tr_iload dX12_readTurner_273 hl765 ?_
                    refine q_iast dX12_readTurner_275 (kR64 hS819.1 ta826) (ti_in (nR64 hS819.1 ta826) (by omega) (by omega)) hS819 ta826 (iokF rfl) rfl (by rfl) ?_
                    intro I828 hS829 e831 f830
                    have c832 : I828 a0 9 = v774 := (f830 _ _ (fun q => by have z := ta0; rw [q.1, ta826] at z; exact absurd z (by decide))).trans c822
                    have c833 : I828 a0 8 = v776 := (f830 _ _ (fun q => by have z := ta0; rw [q.1, ta826] at z; exact absurd z (by decide))).trans c823
                    have c834 : I828 a0 13 = v778 := (f830 _ _ (fun q => by have z := ta0; rw [q.1, ta826] at z; exact absurd z (by decide))).trans c824
                    have c835 : I828 a1 4 = v794 := (f830 _ _ (fun q => by have z := ta1; rw [q.1, ta826] at z; exact absurd z (by decide))).trans c825
                    refine tr_aload_n dX12_readTurner_276 hl762 ?_
                    refine tr_getR dX12_readTurner_277 fl12_188 (kR15 hS829.1 ta0) d2 ?_
                    obtain ⟨a836, d837, ta836⟩ := rf14_22 hW0 ta1
                    refine tr_getR dX12_readTurner_280 fl12_339 (kR14 hS829.1 ta1) d837 ?_
                    refine tr_iload dX12_readTurner_283 rfl ?_
                    refine tr_iload dX12_readTurner_285 hl766 ?_
                    refine q_iast dX12_readTurner_287 (kR65 hS829.1 ta836) (ti_in (nR65 hS829.1 ta836) (by omega) (by omega)) hS829 ta836 (iokF rfl) rfl (by rfl) ?_
                    intro I838 hS839 e841 f840
                    have c842 : I838 a0 9 = v774 := (f840 _ _ (fun q => by have z := ta0; rw [q.1, ta836] at z; exact absurd z (by decide))).trans c832
                    have c843 : I838 a0 8 = v776 := (f840 _ _ (fun q => by have z := ta0; rw [q.1, ta836] at z; exact absurd z (by decide))).trans c833
                    have c844 : I838 a0 13 = v778 := (f840 _ _ (fun q => by have z := ta0; rw [q.1, ta836] at z; exact absurd z (by decide))).trans c834
                    have c845 : I838 a1 4 = v794 := (f840 _ _ (fun q => by have z := ta1; rw [q.1, ta836] at z; exact absurd z (by decide))).trans c835
                    refine tr_aload_n dX12_readTurner_288 hl762 ?_
                    refine tr_getR dX12_readTurner_289 fl12_188 (kR15 hS839.1 ta0) d2 ?_
                    obtain ⟨a846, d847, ta846⟩ := rf14_23 hW0 ta1
                    refine tr_getR dX12_readTurner_292 fl12_342 (kR14 hS839.1 ta1) d847 ?_
                    refine tr_iload dX12_readTurner_295 rfl ?_
                    refine tr_iload dX12_readTurner_297 hl767 ?_
                    refine q_iast dX12_readTurner_299 (kR66 hS839.1 ta846) (ti_in (nR66 hS839.1 ta846) (by omega) (by omega)) hS839 ta846 (iokF rfl) rfl (by rfl) ?_
                    intro I848 hS849 e851 f850
                    have c852 : I848 a0 9 = v774 := (f850 _ _ (fun q => by have z := ta0; rw [q.1, ta846] at z; exact absurd z (by decide))).trans c842
                    have c853 : I848 a0 8 = v776 := (f850 _ _ (fun q => by have z := ta0; rw [q.1, ta846] at z; exact absurd z (by decide))).trans c843
                    have c854 : I848 a0 13 = v778 := (f850 _ _ (fun q => by have z := ta0; rw [q.1, ta846] at z; exact absurd z (by decide))).trans c844
                    have c855 : I848 a1 4 = v794 := (f850 _ _ (fun q => by have z := ta1; rw [q.1, ta846] at z; exact absurd z (by decide))).trans c845
                    refine tr_aload_n dX12_readTurner_300 hl762 ?_
                    refine tr_getR dX12_readTurner_301 fl12_188 (kR15 hS849.1 ta0) d2 ?_
                    obtain ⟨a856, d857, ta856⟩ := rf14_24 hW0 ta1
                    refine tr_getR dX12_readTurner_304 fl12_344 (kR14 hS849.1 ta1) d857 ?_
                    refine tr_iload dX12_readTurner_307 rfl ?_
                    refine tr_iload dX12_readTurner_309 hl768 ?_
                    refine q_iast dX12_readTurner_311 (kR67 hS849.1 ta856) (ti_in (nR67 hS849.1 ta856) (by omega) (by omega)) hS849 ta856 (iokF rfl) rfl (by rfl) ?_
                    intro I858 hS859 e861 f860
                    have c862 : I858 a0 9 = v774 := (f860 _ _ (fun q => by have z := ta0; rw [q.1, ta856] at z; exact absurd z (by decide))).trans c852
                    have c863 : I858 a0 8 = v776 := (f860 _ _ (fun q => by have z := ta0; rw [q.1, ta856] at z; exact absurd z (by decide))).trans c853
                    have c864 : I858 a0 13 = v778 := (f860 _ _ (fun q => by have z := ta0; rw [q.1, ta856] at z; exact absurd z (by decide))).trans c854
                    have c865 : I858 a1 4 = v794 := (f860 _ _ (fun q => by have z := ta1; rw [q.1, ta856] at z; exact absurd z (by decide))).trans c855
                    refine tr_aload_n dX12_readTurner_312 hl762 ?_
                    refine tr_getR dX12_readTurner_313 fl12_188 (kR15 hS859.1 ta0) d2 ?_
                    obtain ⟨a866, d867, ta866⟩ := rf14_25 hW0 ta1
                    refine tr_getR dX12_readTurner_316 fl12_346 (kR14 hS859.1 ta1) d867 ?_
                    refine tr_iload dX12_readTurner_319 rfl ?_
                    refine tr_iload dX12_readTurner_321 hl769 ?_
                    refine q_iast dX12_readTurner_323 (kR68 hS859.1 ta866) (ti_in (nR68 hS859.1 ta866) (by omega) (by omega)) hS859 ta866 (iokF rfl) rfl (by rfl) ?_
                    intro I868 hS869 e871 f870
                    have c872 : I868 a0 9 = v774 := (f870 _ _ (fun q => by have z := ta0; rw [q.1, ta866] at z; exact absurd z (by decide))).trans c862
                    have c873 : I868 a0 8 = v776 := (f870 _ _ (fun q => by have z := ta0; rw [q.1, ta866] at z; exact absurd z (by decide))).trans c863
                    have c874 : I868 a0 13 = v778 := (f870 _ _ (fun q => by have z := ta0; rw [q.1, ta866] at z; exact absurd z (by decide))).trans c864
                    have c875 : I868 a1 4 = v794 := (f870 _ _ (fun q => by have z := ta1; rw [q.1, ta866] at z; exact absurd z (by decide))).trans c865
                    refine tr_aload_n dX12_readTurner_324 hl762 ?_
                    refine tr_getR dX12_readTurner_325 fl12_188 (kR15 hS869.1 ta0) d2 ?_
                    refine tr_dup dX12_readTurner_328 rfl ?_
                    refine q_getI dX12_readTurner_329 fl12_315 (kR14 hS869.1 ta1) c875 ?_
                    refine q_iconst dX12_readTurner_332 (by decide) ?_
                    intro v876 h877
                    refine q_iaddE dX12_readTurner_333 (by intros; omega) ?_
                    intro v878 h879
                    refine q_putX dX12_readTurner_334 fl12_315 (kR14 hS869.1 ta1) (Or.inl rfl) hS869 ta1 (by decide +kernel) (hS869.1.putN (d' := 0) ta0 d2 (Or.inr (Or.inr rfl)) (by rw [c875]; omega) (by decide) (by show (0 : Int) ≤ v878.toInt ∧ v878.toInt ≤ (5 : Int); omega)) ?_
                    intro I880 hS881 e882 f883
                    have c884 : I880 a0 9 = v774 := (f883 _ _ (fun q => absurd q.2 (by decide))).trans c872
                    have c885 : I880 a0 8 = v776 := (f883 _ _ (fun q => absurd q.2 (by decide))).trans c873
                    have c886 : I880 a0 13 = v778 := (f883 _ _ (fun q => absurd q.2 (by decide))).trans c874
                    exact tr_vret hZ dX12_readTurner_337 rfl (by decide) (by decide) ⟨rfl, rfl, rfl, rfl, rfl, hS881, (by (try rw [c4]); (try rw [c884]); (try omega)), (by (try rw [c885]); (try rw [c7]); (try omega)), (by (try rw [c884]); (try rw [c885]); (try rw [c7]); (try omega)), (by (try rw [c4]); (try rw [c10]); (try rw [c884]); (try rw [c886]); (try omega)), trivial⟩
                  · skip
                    exact tr_vret hZ dX12_readTurner_235 rfl (by decide) (by decide) ⟨rfl, rfl, rfl, rfl, rfl, hS773, (by (try rw [c4]); (try rw [c775]); (try omega)), (by (try rw [c777]); (try rw [c7]); (try omega)), (by (try rw [c775]); (try rw [c777]); (try rw [c7]); (try omega)), (by (try rw [c4]); (try rw [c10]); (try rw [c775]); (try rw [c779]); (try omega)), trivial⟩
                · skip
                  refine tr_aload_n dX12_readTurner_164 hl762 ?_
                  refine q_getI dX12_readTurner_165 fl12_99 (kR15 hS773.1 ta0) c775 ?_
                  refine q_iconst dX12_readTurner_168 (by decide) ?_
                  intro v887 h888
                  refine q_icmp_eq 227 dX12_readTurner_169 (by decide) (fun h889 => ?_) (fun h889 => ?_)
                  · skip
                    refine tr_aload_n dX12_readTurner_227 hl762 ?_
                    refine q_getI dX12_readTurner_228 fl12_99 (kR15 hS773.1 ta0) c775 ?_
                    refine q_iconst dX12_readTurner_231 (by decide) ?_
                    intro v890 h891
                    refine q_icmp_ne 236 dX12_readTurner_232 (by decide) (fun h892 => ?_) (fun h892 => ?_)
                    · skip
                      exfalso; omega
                    · skip
                      exact tr_vret hZ dX12_readTurner_235 rfl (by decide) (by decide) ⟨rfl, rfl, rfl, rfl, rfl, hS773, (by (try rw [c4]); (try rw [c775]); (try omega)), (by (try rw [c777]); (try rw [c7]); (try omega)), (by (try rw [c775]); (try rw [c777]); (try rw [c7]); (try omega)), (by (try rw [c4]); (try rw [c10]); (try rw [c775]); (try rw [c779]); (try omega)), trivial⟩
                  · skip
                    refine tr_aload_n dX12_readTurner_172 hl762 ?_
                    refine q_iconst dX12_readTurner_173 (by decide) ?_
                    intro v893 h894
                    refine tr_aload_n dX12_readTurner_174 hl762 ?_
                    refine tr_getR dX12_readTurner_175 fl12_188 (kR15 hS773.1 ta0) d2 ?_
                    obtain ⟨v895, c896⟩ : ∃ v, I0 a1 1 = v := ⟨_, rfl⟩
                    have b897 := iv14_1 hW0 ta1 c896
                    refine q_getI dX12_readTurner_178 fl12_263 (kR14 hS773.1 ta1) ((hS773.cell ta1 (by decide +kernel)).trans c896) ?_
                    refine q_iconst dX12_readTurner_181 (by decide) ?_
                    intro v898 h899
                    refine q_isubE dX12_readTurner_182 (by intros; omega) ?_
                    intro v900 h901
                    refine q_callVi hE (M' := mX12_bounded) (as := [_, _]) dX12_readTurner_183 lk12_153 inX12_bounded seX12_bounded myX12_bounded (by decide) ⟨by decide, by decide⟩ rfl (kR15 hS773.1 ta0) (Nat.le_of_ble_eq_true rfl) rfl rfl (by decide) (by decide) (k_X12_bounded hS773.1 ta0) ?_
                    rintro v906 cn' K' N' I902 R903 L904 ⟨rfl, rfl, rfl, rfl, rfl, g905, p907, p908, p909, p910, -⟩
                    have hS911 := hS773.tr g905 (by decide +kernel) (by decide +kernel)
                    have c912 : I902 a0 8 = v776 := (g905.cell ta0 (by decide +kernel)).trans c777
                    obtain ⟨v913, c914⟩ : ∃ v, I902 a0 9 = v := ⟨_, rfl⟩
                    have b915 := iv15_9 hS911.1 ta0 c914
                    have p916 := p907
                    rw [c775] at p916
                    rw [c914] at p916
                    have p917 := p908
                    have p918 := p909
                    rw [c914] at p918
                    rw [c775] at p918
                    obtain ⟨v919, c920⟩ : ∃ v, I902 a0 13 = v := ⟨_, rfl⟩
                    have p921 := p910
                    rw [c775] at p921
                    rw [c779] at p921
                    rw [c914] at p921
                    rw [c920] at p921
                    refine tr_istore dX12_readTurner_186 (by decide) (by decide) ?_
                    refine tr_iload dX12_readTurner_188 hl769 ?_
                    refine tr_iload dX12_readTurner_190 rfl ?_
                    refine q_callSi hE (M' := mX12_has) (as := [_, _]) dX12_readTurner_192 lk12_329 inX12_has myX12_has ⟨by decide, by decide⟩ rfl (Nat.le_of_ble_eq_true rfl) rfl rfl (by decide) (by decide) (k_X12_has hS911.1 ) ?_
                    rintro v926 cn' K' N' I922 R923 L924 ⟨rfl, rfl, rfl, rfl, rfl, rfl, h927, -⟩
                    refine q_if_eq 203 dX12_readTurner_195 (by decide) (fun h928 => ?_) (fun h928 => ?_)
                    · skip
                      refine tr_aload_n dX12_readTurner_203 hl762 ?_
                      refine q_callVv hE (M' := mX12_goesOn) (as := []) dX12_readTurner_204 lk12_142 inX12_goesOn seX12_goesOn myX12_goesOn (by decide) ⟨by decide, by decide⟩ rfl (kR15 hS911.1 ta0) (Nat.le_of_ble_eq_true rfl) rfl rfl (by decide) (by decide) (k_X12_goesOn hS911.1 ta0) ?_
                      rintro cn' K' N' I929 R930 L931 ⟨rfl, rfl, rfl, rfl, g932, p934, p935, p936, p937, -⟩
                      have hS938 := hS911.tr g932 (by decide +kernel) (by decide +kernel)
                      have c939 : I929 a0 13 = v919 := (g932.cell ta0 (by decide +kernel)).trans c920
                      obtain ⟨v940, c941⟩ : ∃ v, I929 a0 9 = v := ⟨_, rfl⟩
                      have b942 := iv15_9 hS938.1 ta0 c941
                      obtain ⟨v943, c944⟩ : ∃ v, I929 a0 8 = v := ⟨_, rfl⟩
                      have b945 := iv15_8 hS938.1 ta0 c944
                      have p946 := p934
                      rw [c914] at p946
                      rw [c941] at p946
                      rw [c944] at p946
                      rw [c912] at p946
                      have p947 := p935
                      rw [c914] at p947
                      rw [c941] at p947
                      have p948 := p936
                      rw [c944] at p948
                      rw [c912] at p948
                      have p949 := p937
                      rw [c914] at p949
                      rw [c941] at p949
                      rw [c944] at p949
                      rw [c912] at p949
                      refine tr_iload dX12_readTurner_207 hl769 ?_
                      refine q_iconst dX12_readTurner_209 (by decide) ?_
                      intro v950 h951
                      refine tr_iload dX12_readTurner_210 rfl ?_
                      refine q_ishlE dX12_readTurner_212 (by omega) (by omega) ?_
                      intro v952 h953
                      refine q_ior dX12_readTurner_213 ?_
                      intro v954
                      refine tr_istore dX12_readTurner_214 (by decide) (by decide) ?_
                      refine tr_aload_n dX12_readTurner_216 hl762 ?_
                      refine q_bipush dX12_readTurner_217 (by decide +kernel) ?_
                      intro v955 h956
                      refine q_callVi hE (M' := mX12_eatsSign) (as := [_]) dX12_readTurner_219 lk12_221 inX12_eatsSign seX12_eatsSign myX12_eatsSign (by decide) ⟨by decide, by decide⟩ rfl (kR15 hS938.1 ta0) (Nat.le_of_ble_eq_true rfl) rfl rfl (by decide) (by decide) (k_X12_eatsSign hS938.1 ta0) ?_
                      rintro v961 cn' K' N' I957 R958 L959 ⟨rfl, rfl, rfl, rfl, g960, h962, p963, p964, p965, -⟩
                      have hS966 := hS938.tr g960 (by decide +kernel) (by decide +kernel)
                      have c967 : I957 a0 13 = v919 := (g960.cell ta0 (by decide +kernel)).trans c939
                      obtain ⟨v968, c969⟩ : ∃ v, I957 a0 9 = v := ⟨_, rfl⟩
                      have b970 := iv15_9 hS966.1 ta0 c969
                      obtain ⟨v971, c972⟩ : ∃ v, I957 a0 8 = v := ⟨_, rfl⟩
                      have b973 := iv15_8 hS966.1 ta0 c972
                      have p974 := p963
                      rw [c969] at p974
                      rw [c941] at p974
                      rw [c972] at p974
                      rw [c944] at p974
                      have p975 := p964
                      rw [c941] at p975
                      rw [c969] at p975
                      rw [c972] at p975
                      rw [c944] at p975
                      have p976 := p965
                      rw [c969] at p976
                      rw [c972] at p976
                      rw [c944] at p976
                      refine tr_istore dX12_readTurner_222 (by decide) (by decide) ?_
                      refine tr_goto 159 dX12_readTurner_224 (by decide) ?_
                      exact ih786 _ v954 v961 I957 L959 v968 v971 v919 hl762 hl763 hl764 hl765 hl766 hl767 hl768 rfl rfl hS966 c969 c972 c967 (by omega) (by omega) (by omega) (by omega) (by omega) (by omega) (by omega)
                    · skip
                      refine tr_aload_n dX12_readTurner_198 hl762 ?_
                      refine q_iconst dX12_readTurner_199 (by decide) ?_
                      intro v977 h978
                      refine q_callVv hE (M' := mX12_flaw) (as := [_]) dX12_readTurner_200 lk12_145 inX12_flaw seX12_flaw myX12_flaw (by decide) ⟨by decide, by decide⟩ rfl (kR15 hS911.1 ta0) (Nat.le_of_ble_eq_true rfl) rfl rfl (by decide) (by decide) (k_X12_flaw hS911.1 ta0 (by omega)) ?_
                      rintro cn' K' N' I979 R980 L981 ⟨rfl, rfl, rfl, rfl, rfl, g982, p984, p985, -⟩
                      have hS986 := hS911.tr g982 (by decide +kernel) (by decide +kernel)
                      have c987 : I979 a0 8 = v776 := (g982.cell ta0 (by decide +kernel)).trans c912
                      obtain ⟨v988, c989⟩ : ∃ v, I979 a0 9 = v := ⟨_, rfl⟩
                      have b990 := iv15_9 hS986.1 ta0 c989
                      have p991 := p984
                      rw [c989] at p991
                      obtain ⟨v992, c993⟩ : ∃ v, I979 a0 13 = v := ⟨_, rfl⟩
                      have p994 := p985
                      rw [c914] at p994
                      rw [c920] at p994
                      rw [c993] at p994
                      refine tr_aload_n dX12_readTurner_203 hl762 ?_
                      refine q_callVv hE (M' := mX12_goesOn) (as := []) dX12_readTurner_204 lk12_142 inX12_goesOn seX12_goesOn myX12_goesOn (by decide) ⟨by decide, by decide⟩ rfl (kR15 hS986.1 ta0) (Nat.le_of_ble_eq_true rfl) rfl rfl (by decide) (by decide) (k_X12_goesOn hS986.1 ta0) ?_
                      rintro cn' K' N' I995 R996 L997 ⟨rfl, rfl, rfl, rfl, g998, p1000, p1001, p1002, p1003, -⟩
                      have hS1004 := hS986.tr g998 (by decide +kernel) (by decide +kernel)
                      have c1005 : I995 a0 13 = v992 := (g998.cell ta0 (by decide +kernel)).trans c993
                      obtain ⟨v1006, c1007⟩ : ∃ v, I995 a0 9 = v := ⟨_, rfl⟩
                      have b1008 := iv15_9 hS1004.1 ta0 c1007
                      obtain ⟨v1009, c1010⟩ : ∃ v, I995 a0 8 = v := ⟨_, rfl⟩
                      have b1011 := iv15_8 hS1004.1 ta0 c1010
                      have p1012 := p1000
                      rw [c989] at p1012
                      rw [c1007] at p1012
                      rw [c1010] at p1012
                      rw [c987] at p1012
                      have p1013 := p1001
                      rw [c989] at p1013
                      rw [c1007] at p1013
                      have p1014 := p1002
                      rw [c1010] at p1014
                      rw [c987] at p1014
                      have p1015 := p1003
                      rw [c989] at p1015
                      rw [c1007] at p1015
                      rw [c1010] at p1015
                      rw [c987] at p1015
                      refine tr_iload dX12_readTurner_207 hl769 ?_
                      refine q_iconst dX12_readTurner_209 (by decide) ?_
                      intro v1016 h1017
                      refine tr_iload dX12_readTurner_210 rfl ?_
                      refine q_ishlE dX12_readTurner_212 (by omega) (by omega) ?_
                      intro v1018 h1019
                      refine q_ior dX12_readTurner_213 ?_
                      intro v1020
                      refine tr_istore dX12_readTurner_214 (by decide) (by decide) ?_
                      refine tr_aload_n dX12_readTurner_216 hl762 ?_
                      refine q_bipush dX12_readTurner_217 (by decide +kernel) ?_
                      intro v1021 h1022
                      refine q_callVi hE (M' := mX12_eatsSign) (as := [_]) dX12_readTurner_219 lk12_221 inX12_eatsSign seX12_eatsSign myX12_eatsSign (by decide) ⟨by decide, by decide⟩ rfl (kR15 hS1004.1 ta0) (Nat.le_of_ble_eq_true rfl) rfl rfl (by decide) (by decide) (k_X12_eatsSign hS1004.1 ta0) ?_
                      rintro v1027 cn' K' N' I1023 R1024 L1025 ⟨rfl, rfl, rfl, rfl, g1026, h1028, p1029, p1030, p1031, -⟩
                      have hS1032 := hS1004.tr g1026 (by decide +kernel) (by decide +kernel)
                      have c1033 : I1023 a0 13 = v992 := (g1026.cell ta0 (by decide +kernel)).trans c1005
                      obtain ⟨v1034, c1035⟩ : ∃ v, I1023 a0 9 = v := ⟨_, rfl⟩
                      have b1036 := iv15_9 hS1032.1 ta0 c1035
                      obtain ⟨v1037, c1038⟩ : ∃ v, I1023 a0 8 = v := ⟨_, rfl⟩
                      have b1039 := iv15_8 hS1032.1 ta0 c1038
                      have p1040 := p1029
                      rw [c1035] at p1040
                      rw [c1007] at p1040
                      rw [c1038] at p1040
                      rw [c1010] at p1040
                      have p1041 := p1030
                      rw [c1007] at p1041
                      rw [c1035] at p1041
                      rw [c1038] at p1041
                      rw [c1010] at p1041
                      have p1042 := p1031
                      rw [c1035] at p1042
                      rw [c1038] at p1042
                      rw [c1010] at p1042
                      refine tr_istore dX12_readTurner_222 (by decide) (by decide) ?_
                      refine tr_goto 159 dX12_readTurner_224 (by decide) ?_
                      exact ih786 _ v1020 v1027 I1023 L1025 v1034 v1037 v992 hl762 hl763 hl764 hl765 hl766 hl767 hl768 rfl rfl hS1032 c1035 c1038 c1033 (by omega) (by omega) (by omega) (by omega) (by omega) (by omega) (by omega)
            exact lp786 _ _ v756 v758 I733 L735 v744 v748 v753 rfl rfl rfl rfl rfl rfl rfl rfl rfl hS742 c745 c749 c754 (by omega) (by omega) (by omega) (by omega) (by omega) (by omega) (Nat.lt_succ_self _)
          · skip
            exfalso; omega
      · skip
        refine q_iconst dX12_readTurner_55 (by decide) ?_
        intro v1043 h1044
        refine tr_goto 73 dX12_readTurner_56 (by decide) ?_
        refine tr_istore_n dX12_readTurner_73 (by decide) (by decide) ?_
        refine tr_iload_n dX12_readTurner_74 rfl ?_
        refine q_iconst dX12_readTurner_75 (by decide) ?_
        intro v1045 h1046
        refine q_icmp_ne 84 dX12_readTurner_76 (by decide) (fun h1047 => ?_) (fun h1047 => ?_)
        · skip
          refine tr_aload_n dX12_readTurner_84 rfl ?_
          refine tr_ldcwS dX12_readTurner_85 ld12_324 ?_
          refine q_iconst dX12_readTurner_88 (by decide) ?_
          intro v1048 h1049
          refine tr_aload_n dX12_readTurner_89 rfl ?_
          refine tr_getR dX12_readTurner_90 fl12_188 (kR15 hS117.1 ta0) d2 ?_
          obtain ⟨v1050, c1051⟩ : ∃ v, I0 a1 0 = v := ⟨_, rfl⟩
          have b1052 := iv14_0 hW0 ta1 c1051
          refine q_getI dX12_readTurner_93 fl12_192 (kR14 hS117.1 ta1) ((hS117.cell ta1 (by decide +kernel)).trans c1051) ?_
          refine q_iconst dX12_readTurner_96 (by decide) ?_
          intro v1053 h1054
          refine q_isubE dX12_readTurner_97 (by intros; omega) ?_
          intro v1055 h1056
          refine q_callVi hE (M' := mX12_readPart) (as := [_, _, _]) dX12_readTurner_98 lk12_249 inX12_readPart seX12_readPart myX12_readPart (by decide) ⟨by decide, by decide⟩ rfl (kR15 hS117.1 ta0) (Nat.le_of_ble_eq_true rfl) rfl rfl (by decide) (by decide) (k_X12_readPart hS117.1 ta0 (by decide)) ?_
          rintro v1061 cn' K' N' I1057 R1058 L1059 ⟨rfl, rfl, rfl, rfl, g1060, p1062, p1063, p1064, p1065, p1066, -⟩
          have hS1067 := hS117.tr g1060 (by decide +kernel) (by decide +kernel)
          have c1068 : I1057 a1 4 = v11 := (g1060.cell ta1 (by decide +kernel)).trans c118
          obtain ⟨v1069, c1070⟩ : ∃ v, I1057 a0 9 = v := ⟨_, rfl⟩
          have b1071 := iv15_9 hS1067.1 ta0 c1070
          have p1072 := p1062
          rw [c121] at p1072
          rw [c1070] at p1072
          obtain ⟨v1073, c1074⟩ : ∃ v, I1057 a0 8 = v := ⟨_, rfl⟩
          have b1075 := iv15_8 hS1067.1 ta0 c1074
          have p1076 := p1063
          rw [c1074] at p1076
          rw [c124] at p1076
          have p1077 := p1064
          rw [c1070] at p1077
          rw [c1074] at p1077
          rw [c124] at p1077
          obtain ⟨v1078, c1079⟩ : ∃ v, I1057 a0 13 = v := ⟨_, rfl⟩
          have p1080 := p1065
          rw [c121] at p1080
          rw [c119] at p1080
          rw [c1070] at p1080
          rw [c1079] at p1080
          have p1081 := p1066
          refine tr_istore dX12_readTurner_101 (by decide) (by decide) ?_
          refine tr_aload_n dX12_readTurner_103 rfl ?_
          refine tr_ldcwS dX12_readTurner_104 ld12_272 ?_
          refine tr_iload dX12_readTurner_107 rfl ?_
          refine q_iconst dX12_readTurner_109 (by decide) ?_
          intro v1082 h1083
          refine q_iaddE dX12_readTurner_110 (by intros; omega) ?_
          intro v1084 h1085
          refine tr_aload_n dX12_readTurner_111 rfl ?_
          refine tr_getR dX12_readTurner_112 fl12_188 (kR15 hS1067.1 ta0) d2 ?_
          refine q_getI dX12_readTurner_115 fl12_192 (kR14 hS1067.1 ta1) ((hS1067.cell ta1 (by decide +kernel)).trans c1051) ?_
          refine q_callVi hE (M' := mX12_readPart) (as := [_, _, _]) dX12_readTurner_118 lk12_249 inX12_readPart seX12_readPart myX12_readPart (by decide) ⟨by decide, by decide⟩ rfl (kR15 hS1067.1 ta0) (Nat.le_of_ble_eq_true rfl) rfl rfl (by decide) (by decide) (k_X12_readPart hS1067.1 ta0 (by decide)) ?_
          rintro v1090 cn' K' N' I1086 R1087 L1088 ⟨rfl, rfl, rfl, rfl, g1089, p1091, p1092, p1093, p1094, p1095, -⟩
          have hS1096 := hS1067.tr g1089 (by decide +kernel) (by decide +kernel)
          have c1097 : I1086 a1 4 = v11 := (g1089.cell ta1 (by decide +kernel)).trans c1068
          obtain ⟨v1098, c1099⟩ : ∃ v, I1086 a0 9 = v := ⟨_, rfl⟩
          have b1100 := iv15_9 hS1096.1 ta0 c1099
          have p1101 := p1091
          rw [c1070] at p1101
          rw [c1099] at p1101
          obtain ⟨v1102, c1103⟩ : ∃ v, I1086 a0 8 = v := ⟨_, rfl⟩
          have b1104 := iv15_8 hS1096.1 ta0 c1103
          have p1105 := p1092
          rw [c1103] at p1105
          rw [c1074] at p1105
          have p1106 := p1093
          rw [c1099] at p1106
          rw [c1103] at p1106
          rw [c1074] at p1106
          obtain ⟨v1107, c1108⟩ : ∃ v, I1086 a0 13 = v := ⟨_, rfl⟩
          have p1109 := p1094
          rw [c1070] at p1109
          rw [c1079] at p1109
          rw [c1099] at p1109
          rw [c1108] at p1109
          have p1110 := p1095
          refine tr_istore dX12_readTurner_121 (by decide) (by decide) ?_
          refine tr_aload_n dX12_readTurner_123 rfl ?_
          refine tr_ldcwS dX12_readTurner_124 ld12_325 ?_
          refine q_iconst dX12_readTurner_127 (by decide) ?_
          intro v1111 h1112
          refine q_bipush dX12_readTurner_128 (by decide +kernel) ?_
          intro v1113 h1114
          refine q_callVi hE (M' := mX12_readPart) (as := [_, _, _]) dX12_readTurner_130 lk12_249 inX12_readPart seX12_readPart myX12_readPart (by decide) ⟨by decide, by decide⟩ rfl (kR15 hS1096.1 ta0) (Nat.le_of_ble_eq_true rfl) rfl rfl (by decide) (by decide) (k_X12_readPart hS1096.1 ta0 (by decide)) ?_
          rintro v1119 cn' K' N' I1115 R1116 L1117 ⟨rfl, rfl, rfl, rfl, g1118, p1120, p1121, p1122, p1123, p1124, -⟩
          have hS1125 := hS1096.tr g1118 (by decide +kernel) (by decide +kernel)
          have c1126 : I1115 a1 4 = v11 := (g1118.cell ta1 (by decide +kernel)).trans c1097
          obtain ⟨v1127, c1128⟩ : ∃ v, I1115 a0 9 = v := ⟨_, rfl⟩
          have b1129 := iv15_9 hS1125.1 ta0 c1128
          have p1130 := p1120
          rw [c1099] at p1130
          rw [c1128] at p1130
          obtain ⟨v1131, c1132⟩ : ∃ v, I1115 a0 8 = v := ⟨_, rfl⟩
          have b1133 := iv15_8 hS1125.1 ta0 c1132
          have p1134 := p1121
          rw [c1132] at p1134
          rw [c1103] at p1134
          have p1135 := p1122
          rw [c1128] at p1135
          rw [c1132] at p1135
          rw [c1103] at p1135
          obtain ⟨v1136, c1137⟩ : ∃ v, I1115 a0 13 = v := ⟨_, rfl⟩
          have p1138 := p1123
          rw [c1099] at p1138
          rw [c1108] at p1138
          rw [c1128] at p1138
          rw [c1137] at p1138
          have p1139 := p1124
          refine tr_istore dX12_readTurner_133 (by decide) (by decide) ?_
          refine tr_aload_n dX12_readTurner_135 rfl ?_
          refine tr_ldcwS dX12_readTurner_136 ld12_327 ?_
          refine q_iconst dX12_readTurner_139 (by decide) ?_
          intro v1140 h1141
          refine q_bipush dX12_readTurner_140 (by decide +kernel) ?_
          intro v1142 h1143
          refine q_callVi hE (M' := mX12_readPart) (as := [_, _, _]) dX12_readTurner_142 lk12_249 inX12_readPart seX12_readPart myX12_readPart (by decide) ⟨by decide, by decide⟩ rfl (kR15 hS1125.1 ta0) (Nat.le_of_ble_eq_true rfl) rfl rfl (by decide) (by decide) (k_X12_readPart hS1125.1 ta0 (by decide)) ?_
          rintro v1148 cn' K' N' I1144 R1145 L1146 ⟨rfl, rfl, rfl, rfl, g1147, p1149, p1150, p1151, p1152, p1153, -⟩
          have hS1154 := hS1125.tr g1147 (by decide +kernel) (by decide +kernel)
          have c1155 : I1144 a1 4 = v11 := (g1147.cell ta1 (by decide +kernel)).trans c1126
          obtain ⟨v1156, c1157⟩ : ∃ v, I1144 a0 9 = v := ⟨_, rfl⟩
          have b1158 := iv15_9 hS1154.1 ta0 c1157
          have p1159 := p1149
          rw [c1128] at p1159
          rw [c1157] at p1159
          obtain ⟨v1160, c1161⟩ : ∃ v, I1144 a0 8 = v := ⟨_, rfl⟩
          have b1162 := iv15_8 hS1154.1 ta0 c1161
          have p1163 := p1150
          rw [c1161] at p1163
          rw [c1132] at p1163
          have p1164 := p1151
          rw [c1157] at p1164
          rw [c1161] at p1164
          rw [c1132] at p1164
          obtain ⟨v1165, c1166⟩ : ∃ v, I1144 a0 13 = v := ⟨_, rfl⟩
          have p1167 := p1152
          rw [c1128] at p1167
          rw [c1137] at p1167
          rw [c1157] at p1167
          rw [c1166] at p1167
          have p1168 := p1153
          refine tr_istore dX12_readTurner_145 (by decide) (by decide) ?_
          refine tr_aload_n dX12_readTurner_147 rfl ?_
          refine tr_ldcS dX12_readTurner_148 ld12_253 ?_
          refine q_callVv hE (M' := mX12_needs) (as := [_]) dX12_readTurner_150 lk12_157 inX12_needs seX12_needs myX12_needs (by decide) ⟨by decide, by decide⟩ rfl (kR15 hS1154.1 ta0) (Nat.le_of_ble_eq_true rfl) rfl rfl (by decide) (by decide) (k_X12_needs hS1154.1 ta0 (by decide)) ?_
          rintro cn' K' N' I1169 R1170 L1171 ⟨rfl, rfl, rfl, rfl, g1172, p1174, p1175, p1176, p1177, -⟩
          have hS1178 := hS1154.tr g1172 (by decide +kernel) (by decide +kernel)
          have c1179 : I1169 a1 4 = v11 := (g1172.cell ta1 (by decide +kernel)).trans c1155
          obtain ⟨v1180, c1181⟩ : ∃ v, I1169 a0 9 = v := ⟨_, rfl⟩
          have b1182 := iv15_9 hS1178.1 ta0 c1181
          have p1183 := p1174
          rw [c1157] at p1183
          rw [c1181] at p1183
          obtain ⟨v1184, c1185⟩ : ∃ v, I1169 a0 8 = v := ⟨_, rfl⟩
          have b1186 := iv15_8 hS1178.1 ta0 c1185
          have p1187 := p1175
          rw [c1185] at p1187
          rw [c1161] at p1187
          have p1188 := p1176
          rw [c1181] at p1188
          rw [c1185] at p1188
          rw [c1161] at p1188
          obtain ⟨v1189, c1190⟩ : ∃ v, I1169 a0 13 = v := ⟨_, rfl⟩
          have p1191 := p1177
          rw [c1157] at p1191
          rw [c1166] at p1191
          rw [c1181] at p1191
          rw [c1190] at p1191
          refine q_iconst dX12_readTurner_153 (by decide) ?_
          intro v1192 h1193
          refine tr_istore dX12_readTurner_154 (by decide) (by decide) ?_
          refine q_iconst dX12_readTurner_156 (by decide) ?_
          intro v1194 h1195
          refine tr_istore dX12_readTurner_157 (by decide) (by decide) ?_
          have lp1222 : ∀ (fu : Nat) (ls : Nat → Option Value) (v1196 : Int32) (v1197 : Int32) (I1207 : cz_I) (L1208 : cz_L) (v1210 : Int32) (v1212 : Int32) (v1214 : Int32), ls 0 = some (.ref a0) → ls 1 = some (.long y45) → ls 3 = some (.int v1043) → ls 4 = some (.int v1061) → ls 5 = some (.int v1090) → ls 6 = some (.int v1119) → ls 7 = some (.int v1148) → ls 8 = some (.int v1196) → ls 9 = some (.int v1197) → St T cn K N 0 wi_X12_readTurner wr_X12_readTurner I0 R0 I1207 R0 → I1207 a0 9 = v1210 → I1207 a0 8 = v1212 → I1207 a0 13 = v1214 → (v3.toInt = 5 → v1210.toInt = 5) → v1212.toInt ≥ v6.toInt → ((2 ≤ v1210.toInt ∧ v1210.toInt ≤ 4) → v1212.toInt ≥ v6.toInt + 1) → ((v3.toInt = 5 → v9.toInt ≥ 1) → (v1210.toInt = 5 → v1214.toInt ≥ 1)) → 0 ≤ v1197.toInt → v1197.toInt ≤ 1 → (-v1212.toInt + v1197.toInt + 900).toNat < fu → Tr X mX12_readTurner 159 ls [] cn K N I1207 R0 L1208 0 0 := by
            intro fu
            induction fu with
            | zero => intros; rename_i hz; exact absurd hz (Nat.not_lt_zero _)
            | succ fu ih1222 =>
              intro ls v1196 v1197 I1207 L1208 v1210 v1212 v1214 hl1198 hl1199 hl1200 hl1201 hl1202 hl1203 hl1204 hl1205 hl1206 hS1209 c1211 c1213 c1215 g1216 g1217 g1218 g1219 g1220 g1221 hm1222
              have b1224 := iv15_9 hS1209.1 ta0 c1211
              have b1225 := iv15_8 hS1209.1 ta0 c1213
              refine tr_iload dX12_readTurner_159 hl1206 ?_
              refine q_if_eq 227 dX12_readTurner_161 (by decide) (fun h1226 => ?_) (fun h1226 => ?_)
              · skip
                refine tr_aload_n dX12_readTurner_227 hl1198 ?_
                refine q_getI dX12_readTurner_228 fl12_99 (kR15 hS1209.1 ta0) c1211 ?_
                refine q_iconst dX12_readTurner_231 (by decide) ?_
                intro v1227 h1228
                refine q_icmp_ne 236 dX12_readTurner_232 (by decide) (fun h1229 => ?_) (fun h1229 => ?_)
                · skip
                  refine tr_aload_n dX12_readTurner_236 hl1198 ?_
                  refine tr_getR dX12_readTurner_237 fl12_188 (kR15 hS1209.1 ta0) d2 ?_
                  obtain ⟨v1230, c1231⟩ : ∃ v, I1207 a1 4 = v := ⟨_, rfl⟩
                  have b1232 := iv14_4 hS1209.1 ta1 c1231
                  refine q_getI dX12_readTurner_240 fl12_315 (kR14 hS1209.1 ta1) c1231 ?_
                  refine tr_istore dX12_readTurner_243 (by decide) (by decide) ?_
                  refine tr_aload_n dX12_readTurner_245 hl1198 ?_
                  refine tr_lload_n dX12_readTurner_246 hl1199 ?_
                  refine q_iconst dX12_readTurner_247 (by decide) ?_
                  intro v1233 h1234
                  refine tr_iload dX12_readTurner_248 rfl ?_
                  obtain ⟨v1236, c1237⟩ : ∃ v, I1207 a1 7 = v := ⟨_, rfl⟩
                  have b1238 := iv14_7 hS1209.1 ta1 c1237
                  obtain ⟨v1239, c1240⟩ : ∃ v, I0 a1 3 = v := ⟨_, rfl⟩
                  have b1241 := iv14_3 hW0 ta1 c1240
                  have p1235 := hS1209.1.2.2.2.2.1 a0 ta0 _ d2
                  rw [c1237, ((hS1209.cell ta1 (by decide +kernel)).trans c1240), c1231] at p1235
                  refine q_callVv hE (M' := mX12_names) (as := [_, _, _]) dX12_readTurner_250 lk12_293 inX12_names seX12_names myX12_names (by decide) ⟨by decide, by decide⟩ rfl (kR15 hS1209.1 ta0) (Nat.le_of_ble_eq_true rfl) rfl rfl (by decide) (by decide) (k_X12_names hS1209.1 ta0 (fun q0 z0 => by obtain rfl := Option.some.inj ((d2).symm.trans z0); (try rw [c1237]); (try omega)) ⟨_, d2⟩) ?_
                  rintro cn' K' N' I1242 R1243 L1244 ⟨rfl, rfl, rfl, rfl, g1245, -⟩
                  have hS1247 := hS1209.tr g1245 (by decide +kernel) (by decide +kernel)
                  have c1248 : I1242 a0 9 = v1210 := (g1245.cell ta0 (by decide +kernel)).trans c1211
                  have c1249 : I1242 a0 8 = v1212 := (g1245.cell ta0 (by decide +kernel)).trans c1213
                  have c1250 : I1242 a0 13 = v1214 := (g1245.cell ta0 (by decide +kernel)).trans c1215
                  have c1251 : I1242 a1 4 = v1230 := (g1245.cell ta1 (by decide +kernel)).trans c1231
                  refine tr_aload_n dX12_readTurner_253 hl1198 ?_
                  refine tr_getR dX12_readTurner_254 fl12_188 (kR15 hS1247.1 ta0) d2 ?_
                  obtain ⟨a1252, d1253, ta1252⟩ := rf14_20 hW0 ta1
                  refine tr_getR dX12_readTurner_257 fl12_333 (kR14 hS1247.1 ta1) d1253 ?_
                  refine tr_iload dX12_readTurner_260 rfl ?_
                  refine tr_iload_n dX12_readTurner_262 hl1200 ?_
                  refine q_iast dX12_readTurner_263 (kR63 hS1247.1 ta1252) (ti_in (nR63 hS1247.1 ta1252) (by omega) (by omega)) hS1247 ta1252 (iokF rfl) rfl (by rfl) ?_
                  intro I1254 hS1255 e1257 f1256
                  have c1258 : I1254 a0 9 = v1210 := (f1256 _ _ (fun q => by have z := ta0; rw [q.1, ta1252] at z; exact absurd z (by decide))).trans c1248
                  have c1259 : I1254 a0 8 = v1212 := (f1256 _ _ (fun q => by have z := ta0; rw [q.1, ta1252] at z; exact absurd z (by decide))).trans c1249
                  have c1260 : I1254 a0 13 = v1214 := (f1256 _ _ (fun q => by have z := ta0; rw [q.1, ta1252] at z; exact absurd z (by decide))).trans c1250
                  have c1261 : I1254 a1 4 = v1230 := (f1256 _ _ (fun q => by have z := ta1; rw [q.1, ta1252] at z; exact absurd z (by decide))).trans c1251
                  refine tr_aload_n dX12_readTurner_264 hl1198 ?_
                  refine tr_getR dX12_readTurner_265 fl12_188 (kR15 hS1255.1 ta0) d2 ?_
                  obtain ⟨a1262, d1263, ta1262⟩ := rf14_21 hW0 ta1
                  refine tr_getR dX12_readTurner_268 fl12_336 (kR14 hS1255.1 ta1) d1263 ?_
                  refine tr_iload dX12_readTurner_271 rfl ?_
                  refine tr_iload dX12_readTurner_273 hl1201 ?_
                  refine q_iast dX12_readTurner_275 (kR64 hS1255.1 ta1262) (ti_in (nR64 hS1255.1 ta1262) (by omega) (by omega)) hS1255 ta1262 (iokF rfl) rfl (by rfl) ?_
                  intro I1264 hS1265 e1267 f1266
                  have c1268 : I1264 a0 9 = v1210 := (f1266 _ _ (fun q => by have z := ta0; rw [q.1, ta1262] at z; exact absurd z (by decide))).trans c1258
                  have c1269 : I1264 a0 8 = v1212 := (f1266 _ _ (fun q => by have z := ta0; rw [q.1, ta1262] at z; exact absurd z (by decide))).trans c1259
                  have c1270 : I1264 a0 13 = v1214 := (f1266 _ _ (fun q => by have z := ta0; rw [q.1, ta1262] at z; exact absurd z (by decide))).trans c1260
                  have c1271 : I1264 a1 4 = v1230 := (f1266 _ _ (fun q => by have z := ta1; rw [q.1, ta1262] at z; exact absurd z (by decide))).trans c1261
                  refine tr_aload_n dX12_readTurner_276 hl1198 ?_
                  refine tr_getR dX12_readTurner_277 fl12_188 (kR15 hS1265.1 ta0) d2 ?_
                  obtain ⟨a1272, d1273, ta1272⟩ := rf14_22 hW0 ta1
                  refine tr_getR dX12_readTurner_280 fl12_339 (kR14 hS1265.1 ta1) d1273 ?_
                  refine tr_iload dX12_readTurner_283 rfl ?_
                  refine tr_iload dX12_readTurner_285 hl1202 ?_
                  refine q_iast dX12_readTurner_287 (kR65 hS1265.1 ta1272) (ti_in (nR65 hS1265.1 ta1272) (by omega) (by omega)) hS1265 ta1272 (iokF rfl) rfl (by rfl) ?_
                  intro I1274 hS1275 e1277 f1276
                  have c1278 : I1274 a0 9 = v1210 := (f1276 _ _ (fun q => by have z := ta0; rw [q.1, ta1272] at z; exact absurd z (by decide))).trans c1268
                  have c1279 : I1274 a0 8 = v1212 := (f1276 _ _ (fun q => by have z := ta0; rw [q.1, ta1272] at z; exact absurd z (by decide))).trans c1269
                  have c1280 : I1274 a0 13 = v1214 := (f1276 _ _ (fun q => by have z := ta0; rw [q.1, ta1272] at z; exact absurd z (by decide))).trans c1270
                  have c1281 : I1274 a1 4 = v1230 := (f1276 _ _ (fun q => by have z := ta1; rw [q.1, ta1272] at z; exact absurd z (by decide))).trans c1271
                  refine tr_aload_n dX12_readTurner_288 hl1198 ?_
                  refine tr_getR dX12_readTurner_289 fl12_188 (kR15 hS1275.1 ta0) d2 ?_
                  obtain ⟨a1282, d1283, ta1282⟩ := rf14_23 hW0 ta1
                  refine tr_getR dX12_readTurner_292 fl12_342 (kR14 hS1275.1 ta1) d1283 ?_
                  refine tr_iload dX12_readTurner_295 rfl ?_
                  refine tr_iload dX12_readTurner_297 hl1203 ?_
                  refine q_iast dX12_readTurner_299 (kR66 hS1275.1 ta1282) (ti_in (nR66 hS1275.1 ta1282) (by omega) (by omega)) hS1275 ta1282 (iokF rfl) rfl (by rfl) ?_
                  intro I1284 hS1285 e1287 f1286
                  have c1288 : I1284 a0 9 = v1210 := (f1286 _ _ (fun q => by have z := ta0; rw [q.1, ta1282] at z; exact absurd z (by decide))).trans c1278
                  have c1289 : I1284 a0 8 = v1212 := (f1286 _ _ (fun q => by have z := ta0; rw [q.1, ta1282] at z; exact absurd z (by decide))).trans c1279
                  have c1290 : I1284 a0 13 = v1214 := (f1286 _ _ (fun q => by have z := ta0; rw [q.1, ta1282] at z; exact absurd z (by decide))).trans c1280
                  have c1291 : I1284 a1 4 = v1230 := (f1286 _ _ (fun q => by have z := ta1; rw [q.1, ta1282] at z; exact absurd z (by decide))).trans c1281
                  refine tr_aload_n dX12_readTurner_300 hl1198 ?_
                  refine tr_getR dX12_readTurner_301 fl12_188 (kR15 hS1285.1 ta0) d2 ?_
                  obtain ⟨a1292, d1293, ta1292⟩ := rf14_24 hW0 ta1
                  refine tr_getR dX12_readTurner_304 fl12_344 (kR14 hS1285.1 ta1) d1293 ?_
                  refine tr_iload dX12_readTurner_307 rfl ?_
                  refine tr_iload dX12_readTurner_309 hl1204 ?_
                  refine q_iast dX12_readTurner_311 (kR67 hS1285.1 ta1292) (ti_in (nR67 hS1285.1 ta1292) (by omega) (by omega)) hS1285 ta1292 (iokF rfl) rfl (by rfl) ?_
                  intro I1294 hS1295 e1297 f1296
                  have c1298 : I1294 a0 9 = v1210 := (f1296 _ _ (fun q => by have z := ta0; rw [q.1, ta1292] at z; exact absurd z (by decide))).trans c1288
                  have c1299 : I1294 a0 8 = v1212 := (f1296 _ _ (fun q => by have z := ta0; rw [q.1, ta1292] at z; exact absurd z (by decide))).trans c1289
                  have c1300 : I1294 a0 13 = v1214 := (f1296 _ _ (fun q => by have z := ta0; rw [q.1, ta1292] at z; exact absurd z (by decide))).trans c1290
                  have c1301 : I1294 a1 4 = v1230 := (f1296 _ _ (fun q => by have z := ta1; rw [q.1, ta1292] at z; exact absurd z (by decide))).trans c1291
                  refine tr_aload_n dX12_readTurner_312 hl1198 ?_
                  refine tr_getR dX12_readTurner_313 fl12_188 (kR15 hS1295.1 ta0) d2 ?_
                  obtain ⟨a1302, d1303, ta1302⟩ := rf14_25 hW0 ta1
                  refine tr_getR dX12_readTurner_316 fl12_346 (kR14 hS1295.1 ta1) d1303 ?_
                  refine tr_iload dX12_readTurner_319 rfl ?_
                  refine tr_iload dX12_readTurner_321 hl1205 ?_
                  refine q_iast dX12_readTurner_323 (kR68 hS1295.1 ta1302) (ti_in (nR68 hS1295.1 ta1302) (by omega) (by omega)) hS1295 ta1302 (iokF rfl) rfl (by rfl) ?_
                  intro I1304 hS1305 e1307 f1306
                  have c1308 : I1304 a0 9 = v1210 := (f1306 _ _ (fun q => by have z := ta0; rw [q.1, ta1302] at z; exact absurd z (by decide))).trans c1298
                  have c1309 : I1304 a0 8 = v1212 := (f1306 _ _ (fun q => by have z := ta0; rw [q.1, ta1302] at z; exact absurd z (by decide))).trans c1299
                  have c1310 : I1304 a0 13 = v1214 := (f1306 _ _ (fun q => by have z := ta0; rw [q.1, ta1302] at z; exact absurd z (by decide))).trans c1300
                  have c1311 : I1304 a1 4 = v1230 := (f1306 _ _ (fun q => by have z := ta1; rw [q.1, ta1302] at z; exact absurd z (by decide))).trans c1301
                  refine tr_aload_n dX12_readTurner_324 hl1198 ?_
                  refine tr_getR dX12_readTurner_325 fl12_188 (kR15 hS1305.1 ta0) d2 ?_
                  refine tr_dup dX12_readTurner_328 rfl ?_
                  refine q_getI dX12_readTurner_329 fl12_315 (kR14 hS1305.1 ta1) c1311 ?_
                  refine q_iconst dX12_readTurner_332 (by decide) ?_
                  intro v1312 h1313
                  refine q_iaddE dX12_readTurner_333 (by intros; omega) ?_
                  intro v1314 h1315
                  refine q_putX dX12_readTurner_334 fl12_315 (kR14 hS1305.1 ta1) (Or.inl rfl) hS1305 ta1 (by decide +kernel) (hS1305.1.putN (d' := 0) ta0 d2 (Or.inr (Or.inr rfl)) (by rw [c1311]; omega) (by decide) (by show (0 : Int) ≤ v1314.toInt ∧ v1314.toInt ≤ (5 : Int); omega)) ?_
                  intro I1316 hS1317 e1318 f1319
                  have c1320 : I1316 a0 9 = v1210 := (f1319 _ _ (fun q => absurd q.2 (by decide))).trans c1308
                  have c1321 : I1316 a0 8 = v1212 := (f1319 _ _ (fun q => absurd q.2 (by decide))).trans c1309
                  have c1322 : I1316 a0 13 = v1214 := (f1319 _ _ (fun q => absurd q.2 (by decide))).trans c1310
                  exact tr_vret hZ dX12_readTurner_337 rfl (by decide) (by decide) ⟨rfl, rfl, rfl, rfl, rfl, hS1317, (by (try rw [c4]); (try rw [c1320]); (try omega)), (by (try rw [c1321]); (try rw [c7]); (try omega)), (by (try rw [c1320]); (try rw [c1321]); (try rw [c7]); (try omega)), (by (try rw [c4]); (try rw [c10]); (try rw [c1320]); (try rw [c1322]); (try omega)), trivial⟩
                · skip
                  exact tr_vret hZ dX12_readTurner_235 rfl (by decide) (by decide) ⟨rfl, rfl, rfl, rfl, rfl, hS1209, (by (try rw [c4]); (try rw [c1211]); (try omega)), (by (try rw [c1213]); (try rw [c7]); (try omega)), (by (try rw [c1211]); (try rw [c1213]); (try rw [c7]); (try omega)), (by (try rw [c4]); (try rw [c10]); (try rw [c1211]); (try rw [c1215]); (try omega)), trivial⟩
              · skip
                refine tr_aload_n dX12_readTurner_164 hl1198 ?_
                refine q_getI dX12_readTurner_165 fl12_99 (kR15 hS1209.1 ta0) c1211 ?_
                refine q_iconst dX12_readTurner_168 (by decide) ?_
                intro v1323 h1324
                refine q_icmp_eq 227 dX12_readTurner_169 (by decide) (fun h1325 => ?_) (fun h1325 => ?_)
                · skip
                  refine tr_aload_n dX12_readTurner_227 hl1198 ?_
                  refine q_getI dX12_readTurner_228 fl12_99 (kR15 hS1209.1 ta0) c1211 ?_
                  refine q_iconst dX12_readTurner_231 (by decide) ?_
                  intro v1326 h1327
                  refine q_icmp_ne 236 dX12_readTurner_232 (by decide) (fun h1328 => ?_) (fun h1328 => ?_)
                  · skip
                    exfalso; omega
                  · skip
                    exact tr_vret hZ dX12_readTurner_235 rfl (by decide) (by decide) ⟨rfl, rfl, rfl, rfl, rfl, hS1209, (by (try rw [c4]); (try rw [c1211]); (try omega)), (by (try rw [c1213]); (try rw [c7]); (try omega)), (by (try rw [c1211]); (try rw [c1213]); (try rw [c7]); (try omega)), (by (try rw [c4]); (try rw [c10]); (try rw [c1211]); (try rw [c1215]); (try omega)), trivial⟩
                · skip
                  refine tr_aload_n dX12_readTurner_172 hl1198 ?_
                  refine q_iconst dX12_readTurner_173 (by decide) ?_
                  intro v1329 h1330
                  refine tr_aload_n dX12_readTurner_174 hl1198 ?_
                  refine tr_getR dX12_readTurner_175 fl12_188 (kR15 hS1209.1 ta0) d2 ?_
                  obtain ⟨v1331, c1332⟩ : ∃ v, I0 a1 1 = v := ⟨_, rfl⟩
                  have b1333 := iv14_1 hW0 ta1 c1332
                  refine q_getI dX12_readTurner_178 fl12_263 (kR14 hS1209.1 ta1) ((hS1209.cell ta1 (by decide +kernel)).trans c1332) ?_
                  refine q_iconst dX12_readTurner_181 (by decide) ?_
                  intro v1334 h1335
                  refine q_isubE dX12_readTurner_182 (by intros; omega) ?_
                  intro v1336 h1337
                  refine q_callVi hE (M' := mX12_bounded) (as := [_, _]) dX12_readTurner_183 lk12_153 inX12_bounded seX12_bounded myX12_bounded (by decide) ⟨by decide, by decide⟩ rfl (kR15 hS1209.1 ta0) (Nat.le_of_ble_eq_true rfl) rfl rfl (by decide) (by decide) (k_X12_bounded hS1209.1 ta0) ?_
                  rintro v1342 cn' K' N' I1338 R1339 L1340 ⟨rfl, rfl, rfl, rfl, rfl, g1341, p1343, p1344, p1345, p1346, -⟩
                  have hS1347 := hS1209.tr g1341 (by decide +kernel) (by decide +kernel)
                  have c1348 : I1338 a0 8 = v1212 := (g1341.cell ta0 (by decide +kernel)).trans c1213
                  obtain ⟨v1349, c1350⟩ : ∃ v, I1338 a0 9 = v := ⟨_, rfl⟩
                  have b1351 := iv15_9 hS1347.1 ta0 c1350
                  have p1352 := p1343
                  rw [c1211] at p1352
                  rw [c1350] at p1352
                  have p1353 := p1344
                  have p1354 := p1345
                  rw [c1350] at p1354
                  rw [c1211] at p1354
                  obtain ⟨v1355, c1356⟩ : ∃ v, I1338 a0 13 = v := ⟨_, rfl⟩
                  have p1357 := p1346
                  rw [c1211] at p1357
                  rw [c1215] at p1357
                  rw [c1350] at p1357
                  rw [c1356] at p1357
                  refine tr_istore dX12_readTurner_186 (by decide) (by decide) ?_
                  refine tr_iload dX12_readTurner_188 hl1205 ?_
                  refine tr_iload dX12_readTurner_190 rfl ?_
                  refine q_callSi hE (M' := mX12_has) (as := [_, _]) dX12_readTurner_192 lk12_329 inX12_has myX12_has ⟨by decide, by decide⟩ rfl (Nat.le_of_ble_eq_true rfl) rfl rfl (by decide) (by decide) (k_X12_has hS1347.1 ) ?_
                  rintro v1362 cn' K' N' I1358 R1359 L1360 ⟨rfl, rfl, rfl, rfl, rfl, rfl, h1363, -⟩
                  refine q_if_eq 203 dX12_readTurner_195 (by decide) (fun h1364 => ?_) (fun h1364 => ?_)
                  · skip
                    refine tr_aload_n dX12_readTurner_203 hl1198 ?_
                    refine q_callVv hE (M' := mX12_goesOn) (as := []) dX12_readTurner_204 lk12_142 inX12_goesOn seX12_goesOn myX12_goesOn (by decide) ⟨by decide, by decide⟩ rfl (kR15 hS1347.1 ta0) (Nat.le_of_ble_eq_true rfl) rfl rfl (by decide) (by decide) (k_X12_goesOn hS1347.1 ta0) ?_
                    rintro cn' K' N' I1365 R1366 L1367 ⟨rfl, rfl, rfl, rfl, g1368, p1370, p1371, p1372, p1373, -⟩
                    have hS1374 := hS1347.tr g1368 (by decide +kernel) (by decide +kernel)
                    have c1375 : I1365 a0 13 = v1355 := (g1368.cell ta0 (by decide +kernel)).trans c1356
                    obtain ⟨v1376, c1377⟩ : ∃ v, I1365 a0 9 = v := ⟨_, rfl⟩
                    have b1378 := iv15_9 hS1374.1 ta0 c1377
                    obtain ⟨v1379, c1380⟩ : ∃ v, I1365 a0 8 = v := ⟨_, rfl⟩
                    have b1381 := iv15_8 hS1374.1 ta0 c1380
                    have p1382 := p1370
                    rw [c1350] at p1382
                    rw [c1377] at p1382
                    rw [c1380] at p1382
                    rw [c1348] at p1382
                    have p1383 := p1371
                    rw [c1350] at p1383
                    rw [c1377] at p1383
                    have p1384 := p1372
                    rw [c1380] at p1384
                    rw [c1348] at p1384
                    have p1385 := p1373
                    rw [c1350] at p1385
                    rw [c1377] at p1385
                    rw [c1380] at p1385
                    rw [c1348] at p1385
                    refine tr_iload dX12_readTurner_207 hl1205 ?_
                    refine q_iconst dX12_readTurner_209 (by decide) ?_
                    intro v1386 h1387
                    refine tr_iload dX12_readTurner_210 rfl ?_
                    refine q_ishlE dX12_readTurner_212 (by omega) (by omega) ?_
                    intro v1388 h1389
                    refine q_ior dX12_readTurner_213 ?_
                    intro v1390
                    refine tr_istore dX12_readTurner_214 (by decide) (by decide) ?_
                    refine tr_aload_n dX12_readTurner_216 hl1198 ?_
                    refine q_bipush dX12_readTurner_217 (by decide +kernel) ?_
                    intro v1391 h1392
                    refine q_callVi hE (M' := mX12_eatsSign) (as := [_]) dX12_readTurner_219 lk12_221 inX12_eatsSign seX12_eatsSign myX12_eatsSign (by decide) ⟨by decide, by decide⟩ rfl (kR15 hS1374.1 ta0) (Nat.le_of_ble_eq_true rfl) rfl rfl (by decide) (by decide) (k_X12_eatsSign hS1374.1 ta0) ?_
                    rintro v1397 cn' K' N' I1393 R1394 L1395 ⟨rfl, rfl, rfl, rfl, g1396, h1398, p1399, p1400, p1401, -⟩
                    have hS1402 := hS1374.tr g1396 (by decide +kernel) (by decide +kernel)
                    have c1403 : I1393 a0 13 = v1355 := (g1396.cell ta0 (by decide +kernel)).trans c1375
                    obtain ⟨v1404, c1405⟩ : ∃ v, I1393 a0 9 = v := ⟨_, rfl⟩
                    have b1406 := iv15_9 hS1402.1 ta0 c1405
                    obtain ⟨v1407, c1408⟩ : ∃ v, I1393 a0 8 = v := ⟨_, rfl⟩
                    have b1409 := iv15_8 hS1402.1 ta0 c1408
                    have p1410 := p1399
                    rw [c1405] at p1410
                    rw [c1377] at p1410
                    rw [c1408] at p1410
                    rw [c1380] at p1410
                    have p1411 := p1400
                    rw [c1377] at p1411
                    rw [c1405] at p1411
                    rw [c1408] at p1411
                    rw [c1380] at p1411
                    have p1412 := p1401
                    rw [c1405] at p1412
                    rw [c1408] at p1412
                    rw [c1380] at p1412
                    refine tr_istore dX12_readTurner_222 (by decide) (by decide) ?_
                    refine tr_goto 159 dX12_readTurner_224 (by decide) ?_
                    exact ih1222 _ v1390 v1397 I1393 L1395 v1404 v1407 v1355 hl1198 hl1199 hl1200 hl1201 hl1202 hl1203 hl1204 rfl rfl hS1402 c1405 c1408 c1403 (by omega) (by omega) (by omega) (by omega) (by omega) (by omega) (by omega)
                  · skip
                    refine tr_aload_n dX12_readTurner_198 hl1198 ?_
                    refine q_iconst dX12_readTurner_199 (by decide) ?_
                    intro v1413 h1414
                    refine q_callVv hE (M' := mX12_flaw) (as := [_]) dX12_readTurner_200 lk12_145 inX12_flaw seX12_flaw myX12_flaw (by decide) ⟨by decide, by decide⟩ rfl (kR15 hS1347.1 ta0) (Nat.le_of_ble_eq_true rfl) rfl rfl (by decide) (by decide) (k_X12_flaw hS1347.1 ta0 (by omega)) ?_
                    rintro cn' K' N' I1415 R1416 L1417 ⟨rfl, rfl, rfl, rfl, rfl, g1418, p1420, p1421, -⟩
                    have hS1422 := hS1347.tr g1418 (by decide +kernel) (by decide +kernel)
                    have c1423 : I1415 a0 8 = v1212 := (g1418.cell ta0 (by decide +kernel)).trans c1348
                    obtain ⟨v1424, c1425⟩ : ∃ v, I1415 a0 9 = v := ⟨_, rfl⟩
                    have b1426 := iv15_9 hS1422.1 ta0 c1425
                    have p1427 := p1420
                    rw [c1425] at p1427
                    obtain ⟨v1428, c1429⟩ : ∃ v, I1415 a0 13 = v := ⟨_, rfl⟩
                    have p1430 := p1421
                    rw [c1350] at p1430
                    rw [c1356] at p1430
                    rw [c1429] at p1430
                    refine tr_aload_n dX12_readTurner_203 hl1198 ?_
                    refine q_callVv hE (M' := mX12_goesOn) (as := []) dX12_readTurner_204 lk12_142 inX12_goesOn seX12_goesOn myX12_goesOn (by decide) ⟨by decide, by decide⟩ rfl (kR15 hS1422.1 ta0) (Nat.le_of_ble_eq_true rfl) rfl rfl (by decide) (by decide) (k_X12_goesOn hS1422.1 ta0) ?_
                    rintro cn' K' N' I1431 R1432 L1433 ⟨rfl, rfl, rfl, rfl, g1434, p1436, p1437, p1438, p1439, -⟩
                    have hS1440 := hS1422.tr g1434 (by decide +kernel) (by decide +kernel)
                    have c1441 : I1431 a0 13 = v1428 := (g1434.cell ta0 (by decide +kernel)).trans c1429
                    obtain ⟨v1442, c1443⟩ : ∃ v, I1431 a0 9 = v := ⟨_, rfl⟩
                    have b1444 := iv15_9 hS1440.1 ta0 c1443
                    obtain ⟨v1445, c1446⟩ : ∃ v, I1431 a0 8 = v := ⟨_, rfl⟩
                    have b1447 := iv15_8 hS1440.1 ta0 c1446
                    have p1448 := p1436
                    rw [c1425] at p1448
                    rw [c1443] at p1448
                    rw [c1446] at p1448
                    rw [c1423] at p1448
                    have p1449 := p1437
                    rw [c1425] at p1449
                    rw [c1443] at p1449
                    have p1450 := p1438
                    rw [c1446] at p1450
                    rw [c1423] at p1450
                    have p1451 := p1439
                    rw [c1425] at p1451
                    rw [c1443] at p1451
                    rw [c1446] at p1451
                    rw [c1423] at p1451
                    refine tr_iload dX12_readTurner_207 hl1205 ?_
                    refine q_iconst dX12_readTurner_209 (by decide) ?_
                    intro v1452 h1453
                    refine tr_iload dX12_readTurner_210 rfl ?_
                    refine q_ishlE dX12_readTurner_212 (by omega) (by omega) ?_
                    intro v1454 h1455
                    refine q_ior dX12_readTurner_213 ?_
                    intro v1456
                    refine tr_istore dX12_readTurner_214 (by decide) (by decide) ?_
                    refine tr_aload_n dX12_readTurner_216 hl1198 ?_
                    refine q_bipush dX12_readTurner_217 (by decide +kernel) ?_
                    intro v1457 h1458
                    refine q_callVi hE (M' := mX12_eatsSign) (as := [_]) dX12_readTurner_219 lk12_221 inX12_eatsSign seX12_eatsSign myX12_eatsSign (by decide) ⟨by decide, by decide⟩ rfl (kR15 hS1440.1 ta0) (Nat.le_of_ble_eq_true rfl) rfl rfl (by decide) (by decide) (k_X12_eatsSign hS1440.1 ta0) ?_
                    rintro v1463 cn' K' N' I1459 R1460 L1461 ⟨rfl, rfl, rfl, rfl, g1462, h1464, p1465, p1466, p1467, -⟩
                    have hS1468 := hS1440.tr g1462 (by decide +kernel) (by decide +kernel)
                    have c1469 : I1459 a0 13 = v1428 := (g1462.cell ta0 (by decide +kernel)).trans c1441
                    obtain ⟨v1470, c1471⟩ : ∃ v, I1459 a0 9 = v := ⟨_, rfl⟩
                    have b1472 := iv15_9 hS1468.1 ta0 c1471
                    obtain ⟨v1473, c1474⟩ : ∃ v, I1459 a0 8 = v := ⟨_, rfl⟩
                    have b1475 := iv15_8 hS1468.1 ta0 c1474
                    have p1476 := p1465
                    rw [c1471] at p1476
                    rw [c1443] at p1476
                    rw [c1474] at p1476
                    rw [c1446] at p1476
                    have p1477 := p1466
                    rw [c1443] at p1477
                    rw [c1471] at p1477
                    rw [c1474] at p1477
                    rw [c1446] at p1477
                    have p1478 := p1467
                    rw [c1471] at p1478
                    rw [c1474] at p1478
                    rw [c1446] at p1478
                    refine tr_istore dX12_readTurner_222 (by decide) (by decide) ?_
                    refine tr_goto 159 dX12_readTurner_224 (by decide) ?_
                    exact ih1222 _ v1456 v1463 I1459 L1461 v1470 v1473 v1428 hl1198 hl1199 hl1200 hl1201 hl1202 hl1203 hl1204 rfl rfl hS1468 c1471 c1474 c1469 (by omega) (by omega) (by omega) (by omega) (by omega) (by omega) (by omega)
          exact lp1222 _ _ v1192 v1194 I1169 L1171 v1180 v1184 v1189 rfl rfl rfl rfl rfl rfl rfl rfl rfl hS1178 c1181 c1185 c1190 (by omega) (by omega) (by omega) (by omega) (by omega) (by omega) (Nat.lt_succ_self _)
        · skip
          exfalso; omega
    · skip
      refine q_iconst dX12_readTurner_41 (by decide) ?_
      intro v1479 h1480
      refine tr_goto 73 dX12_readTurner_42 (by decide) ?_
      refine tr_istore_n dX12_readTurner_73 (by decide) (by decide) ?_
      refine tr_iload_n dX12_readTurner_74 rfl ?_
      refine q_iconst dX12_readTurner_75 (by decide) ?_
      intro v1481 h1482
      refine q_icmp_ne 84 dX12_readTurner_76 (by decide) (fun h1483 => ?_) (fun h1483 => ?_)
      · skip
        refine tr_aload_n dX12_readTurner_84 rfl ?_
        refine tr_ldcwS dX12_readTurner_85 ld12_324 ?_
        refine q_iconst dX12_readTurner_88 (by decide) ?_
        intro v1484 h1485
        refine tr_aload_n dX12_readTurner_89 rfl ?_
        refine tr_getR dX12_readTurner_90 fl12_188 (kR15 hS95.1 ta0) d2 ?_
        obtain ⟨v1486, c1487⟩ : ∃ v, I0 a1 0 = v := ⟨_, rfl⟩
        have b1488 := iv14_0 hW0 ta1 c1487
        refine q_getI dX12_readTurner_93 fl12_192 (kR14 hS95.1 ta1) ((hS95.cell ta1 (by decide +kernel)).trans c1487) ?_
        refine q_iconst dX12_readTurner_96 (by decide) ?_
        intro v1489 h1490
        refine q_isubE dX12_readTurner_97 (by intros; omega) ?_
        intro v1491 h1492
        refine q_callVi hE (M' := mX12_readPart) (as := [_, _, _]) dX12_readTurner_98 lk12_249 inX12_readPart seX12_readPart myX12_readPart (by decide) ⟨by decide, by decide⟩ rfl (kR15 hS95.1 ta0) (Nat.le_of_ble_eq_true rfl) rfl rfl (by decide) (by decide) (k_X12_readPart hS95.1 ta0 (by decide)) ?_
        rintro v1497 cn' K' N' I1493 R1494 L1495 ⟨rfl, rfl, rfl, rfl, g1496, p1498, p1499, p1500, p1501, p1502, -⟩
        have hS1503 := hS95.tr g1496 (by decide +kernel) (by decide +kernel)
        have c1504 : I1493 a1 4 = v11 := (g1496.cell ta1 (by decide +kernel)).trans c96
        obtain ⟨v1505, c1506⟩ : ∃ v, I1493 a0 9 = v := ⟨_, rfl⟩
        have b1507 := iv15_9 hS1503.1 ta0 c1506
        have p1508 := p1498
        rw [c99] at p1508
        rw [c1506] at p1508
        obtain ⟨v1509, c1510⟩ : ∃ v, I1493 a0 8 = v := ⟨_, rfl⟩
        have b1511 := iv15_8 hS1503.1 ta0 c1510
        have p1512 := p1499
        rw [c1510] at p1512
        rw [c102] at p1512
        have p1513 := p1500
        rw [c1506] at p1513
        rw [c1510] at p1513
        rw [c102] at p1513
        obtain ⟨v1514, c1515⟩ : ∃ v, I1493 a0 13 = v := ⟨_, rfl⟩
        have p1516 := p1501
        rw [c99] at p1516
        rw [c97] at p1516
        rw [c1506] at p1516
        rw [c1515] at p1516
        have p1517 := p1502
        refine tr_istore dX12_readTurner_101 (by decide) (by decide) ?_
        refine tr_aload_n dX12_readTurner_103 rfl ?_
        refine tr_ldcwS dX12_readTurner_104 ld12_272 ?_
        refine tr_iload dX12_readTurner_107 rfl ?_
        refine q_iconst dX12_readTurner_109 (by decide) ?_
        intro v1518 h1519
        refine q_iaddE dX12_readTurner_110 (by intros; omega) ?_
        intro v1520 h1521
        refine tr_aload_n dX12_readTurner_111 rfl ?_
        refine tr_getR dX12_readTurner_112 fl12_188 (kR15 hS1503.1 ta0) d2 ?_
        refine q_getI dX12_readTurner_115 fl12_192 (kR14 hS1503.1 ta1) ((hS1503.cell ta1 (by decide +kernel)).trans c1487) ?_
        refine q_callVi hE (M' := mX12_readPart) (as := [_, _, _]) dX12_readTurner_118 lk12_249 inX12_readPart seX12_readPart myX12_readPart (by decide) ⟨by decide, by decide⟩ rfl (kR15 hS1503.1 ta0) (Nat.le_of_ble_eq_true rfl) rfl rfl (by decide) (by decide) (k_X12_readPart hS1503.1 ta0 (by decide)) ?_
        rintro v1526 cn' K' N' I1522 R1523 L1524 ⟨rfl, rfl, rfl, rfl, g1525, p1527, p1528, p1529, p1530, p1531, -⟩
        have hS1532 := hS1503.tr g1525 (by decide +kernel) (by decide +kernel)
        have c1533 : I1522 a1 4 = v11 := (g1525.cell ta1 (by decide +kernel)).trans c1504
        obtain ⟨v1534, c1535⟩ : ∃ v, I1522 a0 9 = v := ⟨_, rfl⟩
        have b1536 := iv15_9 hS1532.1 ta0 c1535
        have p1537 := p1527
        rw [c1506] at p1537
        rw [c1535] at p1537
        obtain ⟨v1538, c1539⟩ : ∃ v, I1522 a0 8 = v := ⟨_, rfl⟩
        have b1540 := iv15_8 hS1532.1 ta0 c1539
        have p1541 := p1528
        rw [c1539] at p1541
        rw [c1510] at p1541
        have p1542 := p1529
        rw [c1535] at p1542
        rw [c1539] at p1542
        rw [c1510] at p1542
        obtain ⟨v1543, c1544⟩ : ∃ v, I1522 a0 13 = v := ⟨_, rfl⟩
        have p1545 := p1530
        rw [c1506] at p1545
        rw [c1515] at p1545
        rw [c1535] at p1545
        rw [c1544] at p1545
        have p1546 := p1531
        refine tr_istore dX12_readTurner_121 (by decide) (by decide) ?_
        refine tr_aload_n dX12_readTurner_123 rfl ?_
        refine tr_ldcwS dX12_readTurner_124 ld12_325 ?_
        refine q_iconst dX12_readTurner_127 (by decide) ?_
        intro v1547 h1548
        refine q_bipush dX12_readTurner_128 (by decide +kernel) ?_
        intro v1549 h1550
        refine q_callVi hE (M' := mX12_readPart) (as := [_, _, _]) dX12_readTurner_130 lk12_249 inX12_readPart seX12_readPart myX12_readPart (by decide) ⟨by decide, by decide⟩ rfl (kR15 hS1532.1 ta0) (Nat.le_of_ble_eq_true rfl) rfl rfl (by decide) (by decide) (k_X12_readPart hS1532.1 ta0 (by decide)) ?_
        rintro v1555 cn' K' N' I1551 R1552 L1553 ⟨rfl, rfl, rfl, rfl, g1554, p1556, p1557, p1558, p1559, p1560, -⟩
        have hS1561 := hS1532.tr g1554 (by decide +kernel) (by decide +kernel)
        have c1562 : I1551 a1 4 = v11 := (g1554.cell ta1 (by decide +kernel)).trans c1533
        obtain ⟨v1563, c1564⟩ : ∃ v, I1551 a0 9 = v := ⟨_, rfl⟩
        have b1565 := iv15_9 hS1561.1 ta0 c1564
        have p1566 := p1556
        rw [c1535] at p1566
        rw [c1564] at p1566
        obtain ⟨v1567, c1568⟩ : ∃ v, I1551 a0 8 = v := ⟨_, rfl⟩
        have b1569 := iv15_8 hS1561.1 ta0 c1568
        have p1570 := p1557
        rw [c1568] at p1570
        rw [c1539] at p1570
        have p1571 := p1558
        rw [c1564] at p1571
        rw [c1568] at p1571
        rw [c1539] at p1571
        obtain ⟨v1572, c1573⟩ : ∃ v, I1551 a0 13 = v := ⟨_, rfl⟩
        have p1574 := p1559
        rw [c1535] at p1574
        rw [c1544] at p1574
        rw [c1564] at p1574
        rw [c1573] at p1574
        have p1575 := p1560
        refine tr_istore dX12_readTurner_133 (by decide) (by decide) ?_
        refine tr_aload_n dX12_readTurner_135 rfl ?_
        refine tr_ldcwS dX12_readTurner_136 ld12_327 ?_
        refine q_iconst dX12_readTurner_139 (by decide) ?_
        intro v1576 h1577
        refine q_bipush dX12_readTurner_140 (by decide +kernel) ?_
        intro v1578 h1579
        refine q_callVi hE (M' := mX12_readPart) (as := [_, _, _]) dX12_readTurner_142 lk12_249 inX12_readPart seX12_readPart myX12_readPart (by decide) ⟨by decide, by decide⟩ rfl (kR15 hS1561.1 ta0) (Nat.le_of_ble_eq_true rfl) rfl rfl (by decide) (by decide) (k_X12_readPart hS1561.1 ta0 (by decide)) ?_
        rintro v1584 cn' K' N' I1580 R1581 L1582 ⟨rfl, rfl, rfl, rfl, g1583, p1585, p1586, p1587, p1588, p1589, -⟩
        have hS1590 := hS1561.tr g1583 (by decide +kernel) (by decide +kernel)
        have c1591 : I1580 a1 4 = v11 := (g1583.cell ta1 (by decide +kernel)).trans c1562
        obtain ⟨v1592, c1593⟩ : ∃ v, I1580 a0 9 = v := ⟨_, rfl⟩
        have b1594 := iv15_9 hS1590.1 ta0 c1593
        have p1595 := p1585
        rw [c1564] at p1595
        rw [c1593] at p1595
        obtain ⟨v1596, c1597⟩ : ∃ v, I1580 a0 8 = v := ⟨_, rfl⟩
        have b1598 := iv15_8 hS1590.1 ta0 c1597
        have p1599 := p1586
        rw [c1597] at p1599
        rw [c1568] at p1599
        have p1600 := p1587
        rw [c1593] at p1600
        rw [c1597] at p1600
        rw [c1568] at p1600
        obtain ⟨v1601, c1602⟩ : ∃ v, I1580 a0 13 = v := ⟨_, rfl⟩
        have p1603 := p1588
        rw [c1564] at p1603
        rw [c1573] at p1603
        rw [c1593] at p1603
        rw [c1602] at p1603
        have p1604 := p1589
        refine tr_istore dX12_readTurner_145 (by decide) (by decide) ?_
        refine tr_aload_n dX12_readTurner_147 rfl ?_
        refine tr_ldcS dX12_readTurner_148 ld12_253 ?_
        refine q_callVv hE (M' := mX12_needs) (as := [_]) dX12_readTurner_150 lk12_157 inX12_needs seX12_needs myX12_needs (by decide) ⟨by decide, by decide⟩ rfl (kR15 hS1590.1 ta0) (Nat.le_of_ble_eq_true rfl) rfl rfl (by decide) (by decide) (k_X12_needs hS1590.1 ta0 (by decide)) ?_
        rintro cn' K' N' I1605 R1606 L1607 ⟨rfl, rfl, rfl, rfl, g1608, p1610, p1611, p1612, p1613, -⟩
        have hS1614 := hS1590.tr g1608 (by decide +kernel) (by decide +kernel)
        have c1615 : I1605 a1 4 = v11 := (g1608.cell ta1 (by decide +kernel)).trans c1591
        obtain ⟨v1616, c1617⟩ : ∃ v, I1605 a0 9 = v := ⟨_, rfl⟩
        have b1618 := iv15_9 hS1614.1 ta0 c1617
        have p1619 := p1610
        rw [c1593] at p1619
        rw [c1617] at p1619
        obtain ⟨v1620, c1621⟩ : ∃ v, I1605 a0 8 = v := ⟨_, rfl⟩
        have b1622 := iv15_8 hS1614.1 ta0 c1621
        have p1623 := p1611
        rw [c1621] at p1623
        rw [c1597] at p1623
        have p1624 := p1612
        rw [c1617] at p1624
        rw [c1621] at p1624
        rw [c1597] at p1624
        obtain ⟨v1625, c1626⟩ : ∃ v, I1605 a0 13 = v := ⟨_, rfl⟩
        have p1627 := p1613
        rw [c1593] at p1627
        rw [c1602] at p1627
        rw [c1617] at p1627
        rw [c1626] at p1627
        refine q_iconst dX12_readTurner_153 (by decide) ?_
        intro v1628 h1629
        refine tr_istore dX12_readTurner_154 (by decide) (by decide) ?_
        refine q_iconst dX12_readTurner_156 (by decide) ?_
        intro v1630 h1631
        refine tr_istore dX12_readTurner_157 (by decide) (by decide) ?_
        have lp1658 : ∀ (fu : Nat) (ls : Nat → Option Value) (v1632 : Int32) (v1633 : Int32) (I1643 : cz_I) (L1644 : cz_L) (v1646 : Int32) (v1648 : Int32) (v1650 : Int32), ls 0 = some (.ref a0) → ls 1 = some (.long y45) → ls 3 = some (.int v1479) → ls 4 = some (.int v1497) → ls 5 = some (.int v1526) → ls 6 = some (.int v1555) → ls 7 = some (.int v1584) → ls 8 = some (.int v1632) → ls 9 = some (.int v1633) → St T cn K N 0 wi_X12_readTurner wr_X12_readTurner I0 R0 I1643 R0 → I1643 a0 9 = v1646 → I1643 a0 8 = v1648 → I1643 a0 13 = v1650 → (v3.toInt = 5 → v1646.toInt = 5) → v1648.toInt ≥ v6.toInt → ((2 ≤ v1646.toInt ∧ v1646.toInt ≤ 4) → v1648.toInt ≥ v6.toInt + 1) → ((v3.toInt = 5 → v9.toInt ≥ 1) → (v1646.toInt = 5 → v1650.toInt ≥ 1)) → 0 ≤ v1633.toInt → v1633.toInt ≤ 1 → (-v1648.toInt + v1633.toInt + 900).toNat < fu → Tr X mX12_readTurner 159 ls [] cn K N I1643 R0 L1644 0 0 := by
          intro fu
          induction fu with
          | zero => intros; rename_i hz; exact absurd hz (Nat.not_lt_zero _)
          | succ fu ih1658 =>
            intro ls v1632 v1633 I1643 L1644 v1646 v1648 v1650 hl1634 hl1635 hl1636 hl1637 hl1638 hl1639 hl1640 hl1641 hl1642 hS1645 c1647 c1649 c1651 g1652 g1653 g1654 g1655 g1656 g1657 hm1658
            have b1660 := iv15_9 hS1645.1 ta0 c1647
            have b1661 := iv15_8 hS1645.1 ta0 c1649
            refine tr_iload dX12_readTurner_159 hl1642 ?_
            refine q_if_eq 227 dX12_readTurner_161 (by decide) (fun h1662 => ?_) (fun h1662 => ?_)
            · skip
              refine tr_aload_n dX12_readTurner_227 hl1634 ?_
              refine q_getI dX12_readTurner_228 fl12_99 (kR15 hS1645.1 ta0) c1647 ?_
              refine q_iconst dX12_readTurner_231 (by decide) ?_
              intro v1663 h1664
              refine q_icmp_ne 236 dX12_readTurner_232 (by decide) (fun h1665 => ?_) (fun h1665 => ?_)
              · skip
                refine tr_aload_n dX12_readTurner_236 hl1634 ?_
                refine tr_getR dX12_readTurner_237 fl12_188 (kR15 hS1645.1 ta0) d2 ?_
                obtain ⟨v1666, c1667⟩ : ∃ v, I1643 a1 4 = v := ⟨_, rfl⟩
                have b1668 := iv14_4 hS1645.1 ta1 c1667
                refine q_getI dX12_readTurner_240 fl12_315 (kR14 hS1645.1 ta1) c1667 ?_
                refine tr_istore dX12_readTurner_243 (by decide) (by decide) ?_
                refine tr_aload_n dX12_readTurner_245 hl1634 ?_
                refine tr_lload_n dX12_readTurner_246 hl1635 ?_
                refine q_iconst dX12_readTurner_247 (by decide) ?_
                intro v1669 h1670
                refine tr_iload dX12_readTurner_248 rfl ?_
                obtain ⟨v1672, c1673⟩ : ∃ v, I1643 a1 7 = v := ⟨_, rfl⟩
                have b1674 := iv14_7 hS1645.1 ta1 c1673
                obtain ⟨v1675, c1676⟩ : ∃ v, I0 a1 3 = v := ⟨_, rfl⟩
                have b1677 := iv14_3 hW0 ta1 c1676
                have p1671 := hS1645.1.2.2.2.2.1 a0 ta0 _ d2
                rw [c1673, ((hS1645.cell ta1 (by decide +kernel)).trans c1676), c1667] at p1671
                refine q_callVv hE (M' := mX12_names) (as := [_, _, _]) dX12_readTurner_250 lk12_293 inX12_names seX12_names myX12_names (by decide) ⟨by decide, by decide⟩ rfl (kR15 hS1645.1 ta0) (Nat.le_of_ble_eq_true rfl) rfl rfl (by decide) (by decide) (k_X12_names hS1645.1 ta0 (fun q0 z0 => by obtain rfl := Option.some.inj ((d2).symm.trans z0); (try rw [c1673]); (try omega)) ⟨_, d2⟩) ?_
                rintro cn' K' N' I1678 R1679 L1680 ⟨rfl, rfl, rfl, rfl, g1681, -⟩
                have hS1683 := hS1645.tr g1681 (by decide +kernel) (by decide +kernel)
                have c1684 : I1678 a0 9 = v1646 := (g1681.cell ta0 (by decide +kernel)).trans c1647
                have c1685 : I1678 a0 8 = v1648 := (g1681.cell ta0 (by decide +kernel)).trans c1649
                have c1686 : I1678 a0 13 = v1650 := (g1681.cell ta0 (by decide +kernel)).trans c1651
                have c1687 : I1678 a1 4 = v1666 := (g1681.cell ta1 (by decide +kernel)).trans c1667
                refine tr_aload_n dX12_readTurner_253 hl1634 ?_
                refine tr_getR dX12_readTurner_254 fl12_188 (kR15 hS1683.1 ta0) d2 ?_
                obtain ⟨a1688, d1689, ta1688⟩ := rf14_20 hW0 ta1
                refine tr_getR dX12_readTurner_257 fl12_333 (kR14 hS1683.1 ta1) d1689 ?_
                refine tr_iload dX12_readTurner_260 rfl ?_
                refine tr_iload_n dX12_readTurner_262 hl1636 ?_
                refine q_iast dX12_readTurner_263 (kR63 hS1683.1 ta1688) (ti_in (nR63 hS1683.1 ta1688) (by omega) (by omega)) hS1683 ta1688 (iokF rfl) rfl (by rfl) ?_
                intro I1690 hS1691 e1693 f1692
                have c1694 : I1690 a0 9 = v1646 := (f1692 _ _ (fun q => by have z := ta0; rw [q.1, ta1688] at z; exact absurd z (by decide))).trans c1684
                have c1695 : I1690 a0 8 = v1648 := (f1692 _ _ (fun q => by have z := ta0; rw [q.1, ta1688] at z; exact absurd z (by decide))).trans c1685
                have c1696 : I1690 a0 13 = v1650 := (f1692 _ _ (fun q => by have z := ta0; rw [q.1, ta1688] at z; exact absurd z (by decide))).trans c1686
                have c1697 : I1690 a1 4 = v1666 := (f1692 _ _ (fun q => by have z := ta1; rw [q.1, ta1688] at z; exact absurd z (by decide))).trans c1687
                refine tr_aload_n dX12_readTurner_264 hl1634 ?_
                refine tr_getR dX12_readTurner_265 fl12_188 (kR15 hS1691.1 ta0) d2 ?_
                obtain ⟨a1698, d1699, ta1698⟩ := rf14_21 hW0 ta1
                refine tr_getR dX12_readTurner_268 fl12_336 (kR14 hS1691.1 ta1) d1699 ?_
                refine tr_iload dX12_readTurner_271 rfl ?_
                refine tr_iload dX12_readTurner_273 hl1637 ?_
                refine q_iast dX12_readTurner_275 (kR64 hS1691.1 ta1698) (ti_in (nR64 hS1691.1 ta1698) (by omega) (by omega)) hS1691 ta1698 (iokF rfl) rfl (by rfl) ?_
                intro I1700 hS1701 e1703 f1702
                have c1704 : I1700 a0 9 = v1646 := (f1702 _ _ (fun q => by have z := ta0; rw [q.1, ta1698] at z; exact absurd z (by decide))).trans c1694
                have c1705 : I1700 a0 8 = v1648 := (f1702 _ _ (fun q => by have z := ta0; rw [q.1, ta1698] at z; exact absurd z (by decide))).trans c1695
                have c1706 : I1700 a0 13 = v1650 := (f1702 _ _ (fun q => by have z := ta0; rw [q.1, ta1698] at z; exact absurd z (by decide))).trans c1696
                have c1707 : I1700 a1 4 = v1666 := (f1702 _ _ (fun q => by have z := ta1; rw [q.1, ta1698] at z; exact absurd z (by decide))).trans c1697
                refine tr_aload_n dX12_readTurner_276 hl1634 ?_
                refine tr_getR dX12_readTurner_277 fl12_188 (kR15 hS1701.1 ta0) d2 ?_
                obtain ⟨a1708, d1709, ta1708⟩ := rf14_22 hW0 ta1
                refine tr_getR dX12_readTurner_280 fl12_339 (kR14 hS1701.1 ta1) d1709 ?_
                refine tr_iload dX12_readTurner_283 rfl ?_
                refine tr_iload dX12_readTurner_285 hl1638 ?_
                refine q_iast dX12_readTurner_287 (kR65 hS1701.1 ta1708) (ti_in (nR65 hS1701.1 ta1708) (by omega) (by omega)) hS1701 ta1708 (iokF rfl) rfl (by rfl) ?_
                intro I1710 hS1711 e1713 f1712
                have c1714 : I1710 a0 9 = v1646 := (f1712 _ _ (fun q => by have z := ta0; rw [q.1, ta1708] at z; exact absurd z (by decide))).trans c1704
                have c1715 : I1710 a0 8 = v1648 := (f1712 _ _ (fun q => by have z := ta0; rw [q.1, ta1708] at z; exact absurd z (by decide))).trans c1705
                have c1716 : I1710 a0 13 = v1650 := (f1712 _ _ (fun q => by have z := ta0; rw [q.1, ta1708] at z; exact absurd z (by decide))).trans c1706
                have c1717 : I1710 a1 4 = v1666 := (f1712 _ _ (fun q => by have z := ta1; rw [q.1, ta1708] at z; exact absurd z (by decide))).trans c1707
                refine tr_aload_n dX12_readTurner_288 hl1634 ?_
                refine tr_getR dX12_readTurner_289 fl12_188 (kR15 hS1711.1 ta0) d2 ?_
                obtain ⟨a1718, d1719, ta1718⟩ := rf14_23 hW0 ta1
                refine tr_getR dX12_readTurner_292 fl12_342 (kR14 hS1711.1 ta1) d1719 ?_
                refine tr_iload dX12_readTurner_295 rfl ?_
                refine tr_iload dX12_readTurner_297 hl1639 ?_
                refine q_iast dX12_readTurner_299 (kR66 hS1711.1 ta1718) (ti_in (nR66 hS1711.1 ta1718) (by omega) (by omega)) hS1711 ta1718 (iokF rfl) rfl (by rfl) ?_
                intro I1720 hS1721 e1723 f1722
                have c1724 : I1720 a0 9 = v1646 := (f1722 _ _ (fun q => by have z := ta0; rw [q.1, ta1718] at z; exact absurd z (by decide))).trans c1714
                have c1725 : I1720 a0 8 = v1648 := (f1722 _ _ (fun q => by have z := ta0; rw [q.1, ta1718] at z; exact absurd z (by decide))).trans c1715
                have c1726 : I1720 a0 13 = v1650 := (f1722 _ _ (fun q => by have z := ta0; rw [q.1, ta1718] at z; exact absurd z (by decide))).trans c1716
                have c1727 : I1720 a1 4 = v1666 := (f1722 _ _ (fun q => by have z := ta1; rw [q.1, ta1718] at z; exact absurd z (by decide))).trans c1717
                refine tr_aload_n dX12_readTurner_300 hl1634 ?_
                refine tr_getR dX12_readTurner_301 fl12_188 (kR15 hS1721.1 ta0) d2 ?_
                obtain ⟨a1728, d1729, ta1728⟩ := rf14_24 hW0 ta1
                refine tr_getR dX12_readTurner_304 fl12_344 (kR14 hS1721.1 ta1) d1729 ?_
                refine tr_iload dX12_readTurner_307 rfl ?_
                refine tr_iload dX12_readTurner_309 hl1640 ?_
                refine q_iast dX12_readTurner_311 (kR67 hS1721.1 ta1728) (ti_in (nR67 hS1721.1 ta1728) (by omega) (by omega)) hS1721 ta1728 (iokF rfl) rfl (by rfl) ?_
                intro I1730 hS1731 e1733 f1732
                have c1734 : I1730 a0 9 = v1646 := (f1732 _ _ (fun q => by have z := ta0; rw [q.1, ta1728] at z; exact absurd z (by decide))).trans c1724
                have c1735 : I1730 a0 8 = v1648 := (f1732 _ _ (fun q => by have z := ta0; rw [q.1, ta1728] at z; exact absurd z (by decide))).trans c1725
                have c1736 : I1730 a0 13 = v1650 := (f1732 _ _ (fun q => by have z := ta0; rw [q.1, ta1728] at z; exact absurd z (by decide))).trans c1726
                have c1737 : I1730 a1 4 = v1666 := (f1732 _ _ (fun q => by have z := ta1; rw [q.1, ta1728] at z; exact absurd z (by decide))).trans c1727
                refine tr_aload_n dX12_readTurner_312 hl1634 ?_
                refine tr_getR dX12_readTurner_313 fl12_188 (kR15 hS1731.1 ta0) d2 ?_
                obtain ⟨a1738, d1739, ta1738⟩ := rf14_25 hW0 ta1
                refine tr_getR dX12_readTurner_316 fl12_346 (kR14 hS1731.1 ta1) d1739 ?_
                refine tr_iload dX12_readTurner_319 rfl ?_
                refine tr_iload dX12_readTurner_321 hl1641 ?_
                refine q_iast dX12_readTurner_323 (kR68 hS1731.1 ta1738) (ti_in (nR68 hS1731.1 ta1738) (by omega) (by omega)) hS1731 ta1738 (iokF rfl) rfl (by rfl) ?_
                intro I1740 hS1741 e1743 f1742
                have c1744 : I1740 a0 9 = v1646 := (f1742 _ _ (fun q => by have z := ta0; rw [q.1, ta1738] at z; exact absurd z (by decide))).trans c1734
                have c1745 : I1740 a0 8 = v1648 := (f1742 _ _ (fun q => by have z := ta0; rw [q.1, ta1738] at z; exact absurd z (by decide))).trans c1735
                have c1746 : I1740 a0 13 = v1650 := (f1742 _ _ (fun q => by have z := ta0; rw [q.1, ta1738] at z; exact absurd z (by decide))).trans c1736
                have c1747 : I1740 a1 4 = v1666 := (f1742 _ _ (fun q => by have z := ta1; rw [q.1, ta1738] at z; exact absurd z (by decide))).trans c1737
                refine tr_aload_n dX12_readTurner_324 hl1634 ?_
                refine tr_getR dX12_readTurner_325 fl12_188 (kR15 hS1741.1 ta0) d2 ?_
                refine tr_dup dX12_readTurner_328 rfl ?_
                refine q_getI dX12_readTurner_329 fl12_315 (kR14 hS1741.1 ta1) c1747 ?_
                refine q_iconst dX12_readTurner_332 (by decide) ?_
                intro v1748 h1749
                refine q_iaddE dX12_readTurner_333 (by intros; omega) ?_
                intro v1750 h1751
                refine q_putX dX12_readTurner_334 fl12_315 (kR14 hS1741.1 ta1) (Or.inl rfl) hS1741 ta1 (by decide +kernel) (hS1741.1.putN (d' := 0) ta0 d2 (Or.inr (Or.inr rfl)) (by rw [c1747]; omega) (by decide) (by show (0 : Int) ≤ v1750.toInt ∧ v1750.toInt ≤ (5 : Int); omega)) ?_
                intro I1752 hS1753 e1754 f1755
                have c1756 : I1752 a0 9 = v1646 := (f1755 _ _ (fun q => absurd q.2 (by decide))).trans c1744
                have c1757 : I1752 a0 8 = v1648 := (f1755 _ _ (fun q => absurd q.2 (by decide))).trans c1745
                have c1758 : I1752 a0 13 = v1650 := (f1755 _ _ (fun q => absurd q.2 (by decide))).trans c1746
                exact tr_vret hZ dX12_readTurner_337 rfl (by decide) (by decide) ⟨rfl, rfl, rfl, rfl, rfl, hS1753, (by (try rw [c4]); (try rw [c1756]); (try omega)), (by (try rw [c1757]); (try rw [c7]); (try omega)), (by (try rw [c1756]); (try rw [c1757]); (try rw [c7]); (try omega)), (by (try rw [c4]); (try rw [c10]); (try rw [c1756]); (try rw [c1758]); (try omega)), trivial⟩
              · skip
                exact tr_vret hZ dX12_readTurner_235 rfl (by decide) (by decide) ⟨rfl, rfl, rfl, rfl, rfl, hS1645, (by (try rw [c4]); (try rw [c1647]); (try omega)), (by (try rw [c1649]); (try rw [c7]); (try omega)), (by (try rw [c1647]); (try rw [c1649]); (try rw [c7]); (try omega)), (by (try rw [c4]); (try rw [c10]); (try rw [c1647]); (try rw [c1651]); (try omega)), trivial⟩
            · skip
              refine tr_aload_n dX12_readTurner_164 hl1634 ?_
              refine q_getI dX12_readTurner_165 fl12_99 (kR15 hS1645.1 ta0) c1647 ?_
              refine q_iconst dX12_readTurner_168 (by decide) ?_
              intro v1759 h1760
              refine q_icmp_eq 227 dX12_readTurner_169 (by decide) (fun h1761 => ?_) (fun h1761 => ?_)
              · skip
                refine tr_aload_n dX12_readTurner_227 hl1634 ?_
                refine q_getI dX12_readTurner_228 fl12_99 (kR15 hS1645.1 ta0) c1647 ?_
                refine q_iconst dX12_readTurner_231 (by decide) ?_
                intro v1762 h1763
                refine q_icmp_ne 236 dX12_readTurner_232 (by decide) (fun h1764 => ?_) (fun h1764 => ?_)
                · skip
                  exfalso; omega
                · skip
                  exact tr_vret hZ dX12_readTurner_235 rfl (by decide) (by decide) ⟨rfl, rfl, rfl, rfl, rfl, hS1645, (by (try rw [c4]); (try rw [c1647]); (try omega)), (by (try rw [c1649]); (try rw [c7]); (try omega)), (by (try rw [c1647]); (try rw [c1649]); (try rw [c7]); (try omega)), (by (try rw [c4]); (try rw [c10]); (try rw [c1647]); (try rw [c1651]); (try omega)), trivial⟩
              · skip
                refine tr_aload_n dX12_readTurner_172 hl1634 ?_
                refine q_iconst dX12_readTurner_173 (by decide) ?_
                intro v1765 h1766
                refine tr_aload_n dX12_readTurner_174 hl1634 ?_
                refine tr_getR dX12_readTurner_175 fl12_188 (kR15 hS1645.1 ta0) d2 ?_
                obtain ⟨v1767, c1768⟩ : ∃ v, I0 a1 1 = v := ⟨_, rfl⟩
                have b1769 := iv14_1 hW0 ta1 c1768
                refine q_getI dX12_readTurner_178 fl12_263 (kR14 hS1645.1 ta1) ((hS1645.cell ta1 (by decide +kernel)).trans c1768) ?_
                refine q_iconst dX12_readTurner_181 (by decide) ?_
                intro v1770 h1771
                refine q_isubE dX12_readTurner_182 (by intros; omega) ?_
                intro v1772 h1773
                refine q_callVi hE (M' := mX12_bounded) (as := [_, _]) dX12_readTurner_183 lk12_153 inX12_bounded seX12_bounded myX12_bounded (by decide) ⟨by decide, by decide⟩ rfl (kR15 hS1645.1 ta0) (Nat.le_of_ble_eq_true rfl) rfl rfl (by decide) (by decide) (k_X12_bounded hS1645.1 ta0) ?_
                rintro v1778 cn' K' N' I1774 R1775 L1776 ⟨rfl, rfl, rfl, rfl, rfl, g1777, p1779, p1780, p1781, p1782, -⟩
                have hS1783 := hS1645.tr g1777 (by decide +kernel) (by decide +kernel)
                have c1784 : I1774 a0 8 = v1648 := (g1777.cell ta0 (by decide +kernel)).trans c1649
                obtain ⟨v1785, c1786⟩ : ∃ v, I1774 a0 9 = v := ⟨_, rfl⟩
                have b1787 := iv15_9 hS1783.1 ta0 c1786
                have p1788 := p1779
                rw [c1647] at p1788
                rw [c1786] at p1788
                have p1789 := p1780
                have p1790 := p1781
                rw [c1786] at p1790
                rw [c1647] at p1790
                obtain ⟨v1791, c1792⟩ : ∃ v, I1774 a0 13 = v := ⟨_, rfl⟩
                have p1793 := p1782
                rw [c1647] at p1793
                rw [c1651] at p1793
                rw [c1786] at p1793
                rw [c1792] at p1793
                refine tr_istore dX12_readTurner_186 (by decide) (by decide) ?_
                refine tr_iload dX12_readTurner_188 hl1641 ?_
                refine tr_iload dX12_readTurner_190 rfl ?_
                refine q_callSi hE (M' := mX12_has) (as := [_, _]) dX12_readTurner_192 lk12_329 inX12_has myX12_has ⟨by decide, by decide⟩ rfl (Nat.le_of_ble_eq_true rfl) rfl rfl (by decide) (by decide) (k_X12_has hS1783.1 ) ?_
                rintro v1798 cn' K' N' I1794 R1795 L1796 ⟨rfl, rfl, rfl, rfl, rfl, rfl, h1799, -⟩
                refine q_if_eq 203 dX12_readTurner_195 (by decide) (fun h1800 => ?_) (fun h1800 => ?_)
                · skip
                  refine tr_aload_n dX12_readTurner_203 hl1634 ?_
                  refine q_callVv hE (M' := mX12_goesOn) (as := []) dX12_readTurner_204 lk12_142 inX12_goesOn seX12_goesOn myX12_goesOn (by decide) ⟨by decide, by decide⟩ rfl (kR15 hS1783.1 ta0) (Nat.le_of_ble_eq_true rfl) rfl rfl (by decide) (by decide) (k_X12_goesOn hS1783.1 ta0) ?_
                  rintro cn' K' N' I1801 R1802 L1803 ⟨rfl, rfl, rfl, rfl, g1804, p1806, p1807, p1808, p1809, -⟩
                  have hS1810 := hS1783.tr g1804 (by decide +kernel) (by decide +kernel)
                  have c1811 : I1801 a0 13 = v1791 := (g1804.cell ta0 (by decide +kernel)).trans c1792
                  obtain ⟨v1812, c1813⟩ : ∃ v, I1801 a0 9 = v := ⟨_, rfl⟩
                  have b1814 := iv15_9 hS1810.1 ta0 c1813
                  obtain ⟨v1815, c1816⟩ : ∃ v, I1801 a0 8 = v := ⟨_, rfl⟩
                  have b1817 := iv15_8 hS1810.1 ta0 c1816
                  have p1818 := p1806
                  rw [c1786] at p1818
                  rw [c1813] at p1818
                  rw [c1816] at p1818
                  rw [c1784] at p1818
                  have p1819 := p1807
                  rw [c1786] at p1819
                  rw [c1813] at p1819
                  have p1820 := p1808
                  rw [c1816] at p1820
                  rw [c1784] at p1820
                  have p1821 := p1809
                  rw [c1786] at p1821
                  rw [c1813] at p1821
                  rw [c1816] at p1821
                  rw [c1784] at p1821
                  refine tr_iload dX12_readTurner_207 hl1641 ?_
                  refine q_iconst dX12_readTurner_209 (by decide) ?_
                  intro v1822 h1823
                  refine tr_iload dX12_readTurner_210 rfl ?_
                  refine q_ishlE dX12_readTurner_212 (by omega) (by omega) ?_
                  intro v1824 h1825
                  refine q_ior dX12_readTurner_213 ?_
                  intro v1826
                  refine tr_istore dX12_readTurner_214 (by decide) (by decide) ?_
                  refine tr_aload_n dX12_readTurner_216 hl1634 ?_
                  refine q_bipush dX12_readTurner_217 (by decide +kernel) ?_
                  intro v1827 h1828
                  refine q_callVi hE (M' := mX12_eatsSign) (as := [_]) dX12_readTurner_219 lk12_221 inX12_eatsSign seX12_eatsSign myX12_eatsSign (by decide) ⟨by decide, by decide⟩ rfl (kR15 hS1810.1 ta0) (Nat.le_of_ble_eq_true rfl) rfl rfl (by decide) (by decide) (k_X12_eatsSign hS1810.1 ta0) ?_
                  rintro v1833 cn' K' N' I1829 R1830 L1831 ⟨rfl, rfl, rfl, rfl, g1832, h1834, p1835, p1836, p1837, -⟩
                  have hS1838 := hS1810.tr g1832 (by decide +kernel) (by decide +kernel)
                  have c1839 : I1829 a0 13 = v1791 := (g1832.cell ta0 (by decide +kernel)).trans c1811
                  obtain ⟨v1840, c1841⟩ : ∃ v, I1829 a0 9 = v := ⟨_, rfl⟩
                  have b1842 := iv15_9 hS1838.1 ta0 c1841
                  obtain ⟨v1843, c1844⟩ : ∃ v, I1829 a0 8 = v := ⟨_, rfl⟩
                  have b1845 := iv15_8 hS1838.1 ta0 c1844
                  have p1846 := p1835
                  rw [c1841] at p1846
                  rw [c1813] at p1846
                  rw [c1844] at p1846
                  rw [c1816] at p1846
                  have p1847 := p1836
                  rw [c1813] at p1847
                  rw [c1841] at p1847
                  rw [c1844] at p1847
                  rw [c1816] at p1847
                  have p1848 := p1837
                  rw [c1841] at p1848
                  rw [c1844] at p1848
                  rw [c1816] at p1848
                  refine tr_istore dX12_readTurner_222 (by decide) (by decide) ?_
                  refine tr_goto 159 dX12_readTurner_224 (by decide) ?_
                  exact ih1658 _ v1826 v1833 I1829 L1831 v1840 v1843 v1791 hl1634 hl1635 hl1636 hl1637 hl1638 hl1639 hl1640 rfl rfl hS1838 c1841 c1844 c1839 (by omega) (by omega) (by omega) (by omega) (by omega) (by omega) (by omega)
                · skip
                  refine tr_aload_n dX12_readTurner_198 hl1634 ?_
                  refine q_iconst dX12_readTurner_199 (by decide) ?_
                  intro v1849 h1850
                  refine q_callVv hE (M' := mX12_flaw) (as := [_]) dX12_readTurner_200 lk12_145 inX12_flaw seX12_flaw myX12_flaw (by decide) ⟨by decide, by decide⟩ rfl (kR15 hS1783.1 ta0) (Nat.le_of_ble_eq_true rfl) rfl rfl (by decide) (by decide) (k_X12_flaw hS1783.1 ta0 (by omega)) ?_
                  rintro cn' K' N' I1851 R1852 L1853 ⟨rfl, rfl, rfl, rfl, rfl, g1854, p1856, p1857, -⟩
                  have hS1858 := hS1783.tr g1854 (by decide +kernel) (by decide +kernel)
                  have c1859 : I1851 a0 8 = v1648 := (g1854.cell ta0 (by decide +kernel)).trans c1784
                  obtain ⟨v1860, c1861⟩ : ∃ v, I1851 a0 9 = v := ⟨_, rfl⟩
                  have b1862 := iv15_9 hS1858.1 ta0 c1861
                  have p1863 := p1856
                  rw [c1861] at p1863
                  obtain ⟨v1864, c1865⟩ : ∃ v, I1851 a0 13 = v := ⟨_, rfl⟩
                  have p1866 := p1857
                  rw [c1786] at p1866
                  rw [c1792] at p1866
                  rw [c1865] at p1866
                  refine tr_aload_n dX12_readTurner_203 hl1634 ?_
                  refine q_callVv hE (M' := mX12_goesOn) (as := []) dX12_readTurner_204 lk12_142 inX12_goesOn seX12_goesOn myX12_goesOn (by decide) ⟨by decide, by decide⟩ rfl (kR15 hS1858.1 ta0) (Nat.le_of_ble_eq_true rfl) rfl rfl (by decide) (by decide) (k_X12_goesOn hS1858.1 ta0) ?_
                  rintro cn' K' N' I1867 R1868 L1869 ⟨rfl, rfl, rfl, rfl, g1870, p1872, p1873, p1874, p1875, -⟩
                  have hS1876 := hS1858.tr g1870 (by decide +kernel) (by decide +kernel)
                  have c1877 : I1867 a0 13 = v1864 := (g1870.cell ta0 (by decide +kernel)).trans c1865
                  obtain ⟨v1878, c1879⟩ : ∃ v, I1867 a0 9 = v := ⟨_, rfl⟩
                  have b1880 := iv15_9 hS1876.1 ta0 c1879
                  obtain ⟨v1881, c1882⟩ : ∃ v, I1867 a0 8 = v := ⟨_, rfl⟩
                  have b1883 := iv15_8 hS1876.1 ta0 c1882
                  have p1884 := p1872
                  rw [c1861] at p1884
                  rw [c1879] at p1884
                  rw [c1882] at p1884
                  rw [c1859] at p1884
                  have p1885 := p1873
                  rw [c1861] at p1885
                  rw [c1879] at p1885
                  have p1886 := p1874
                  rw [c1882] at p1886
                  rw [c1859] at p1886
                  have p1887 := p1875
                  rw [c1861] at p1887
                  rw [c1879] at p1887
                  rw [c1882] at p1887
                  rw [c1859] at p1887
                  refine tr_iload dX12_readTurner_207 hl1641 ?_
                  refine q_iconst dX12_readTurner_209 (by decide) ?_
                  intro v1888 h1889
                  refine tr_iload dX12_readTurner_210 rfl ?_
                  refine q_ishlE dX12_readTurner_212 (by omega) (by omega) ?_
                  intro v1890 h1891
                  refine q_ior dX12_readTurner_213 ?_
                  intro v1892
                  refine tr_istore dX12_readTurner_214 (by decide) (by decide) ?_
                  refine tr_aload_n dX12_readTurner_216 hl1634 ?_
                  refine q_bipush dX12_readTurner_217 (by decide +kernel) ?_
                  intro v1893 h1894
                  refine q_callVi hE (M' := mX12_eatsSign) (as := [_]) dX12_readTurner_219 lk12_221 inX12_eatsSign seX12_eatsSign myX12_eatsSign (by decide) ⟨by decide, by decide⟩ rfl (kR15 hS1876.1 ta0) (Nat.le_of_ble_eq_true rfl) rfl rfl (by decide) (by decide) (k_X12_eatsSign hS1876.1 ta0) ?_
                  rintro v1899 cn' K' N' I1895 R1896 L1897 ⟨rfl, rfl, rfl, rfl, g1898, h1900, p1901, p1902, p1903, -⟩
                  have hS1904 := hS1876.tr g1898 (by decide +kernel) (by decide +kernel)
                  have c1905 : I1895 a0 13 = v1864 := (g1898.cell ta0 (by decide +kernel)).trans c1877
                  obtain ⟨v1906, c1907⟩ : ∃ v, I1895 a0 9 = v := ⟨_, rfl⟩
                  have b1908 := iv15_9 hS1904.1 ta0 c1907
                  obtain ⟨v1909, c1910⟩ : ∃ v, I1895 a0 8 = v := ⟨_, rfl⟩
                  have b1911 := iv15_8 hS1904.1 ta0 c1910
                  have p1912 := p1901
                  rw [c1907] at p1912
                  rw [c1879] at p1912
                  rw [c1910] at p1912
                  rw [c1882] at p1912
                  have p1913 := p1902
                  rw [c1879] at p1913
                  rw [c1907] at p1913
                  rw [c1910] at p1913
                  rw [c1882] at p1913
                  have p1914 := p1903
                  rw [c1907] at p1914
                  rw [c1910] at p1914
                  rw [c1882] at p1914
                  refine tr_istore dX12_readTurner_222 (by decide) (by decide) ?_
                  refine tr_goto 159 dX12_readTurner_224 (by decide) ?_
                  exact ih1658 _ v1892 v1899 I1895 L1897 v1906 v1909 v1864 hl1634 hl1635 hl1636 hl1637 hl1638 hl1639 hl1640 rfl rfl hS1904 c1907 c1910 c1905 (by omega) (by omega) (by omega) (by omega) (by omega) (by omega) (by omega)
        exact lp1658 _ _ v1628 v1630 I1605 L1607 v1616 v1620 v1625 rfl rfl rfl rfl rfl rfl rfl rfl rfl hS1614 c1617 c1621 c1626 (by omega) (by omega) (by omega) (by omega) (by omega) (by omega) (Nat.lt_succ_self _)
      · skip
        exfalso; omega
  · skip
    refine q_iconst dX12_readTurner_27 (by decide) ?_
    intro v1915 h1916
    refine tr_goto 73 dX12_readTurner_28 (by decide) ?_
    refine tr_istore_n dX12_readTurner_73 (by decide) (by decide) ?_
    refine tr_iload_n dX12_readTurner_74 rfl ?_
    refine q_iconst dX12_readTurner_75 (by decide) ?_
    intro v1917 h1918
    refine q_icmp_ne 84 dX12_readTurner_76 (by decide) (fun h1919 => ?_) (fun h1919 => ?_)
    · skip
      refine tr_aload_n dX12_readTurner_84 rfl ?_
      refine tr_ldcwS dX12_readTurner_85 ld12_324 ?_
      refine q_iconst dX12_readTurner_88 (by decide) ?_
      intro v1920 h1921
      refine tr_aload_n dX12_readTurner_89 rfl ?_
      refine tr_getR dX12_readTurner_90 fl12_188 (kR15 hS73.1 ta0) d2 ?_
      obtain ⟨v1922, c1923⟩ : ∃ v, I0 a1 0 = v := ⟨_, rfl⟩
      have b1924 := iv14_0 hW0 ta1 c1923
      refine q_getI dX12_readTurner_93 fl12_192 (kR14 hS73.1 ta1) ((hS73.cell ta1 (by decide +kernel)).trans c1923) ?_
      refine q_iconst dX12_readTurner_96 (by decide) ?_
      intro v1925 h1926
      refine q_isubE dX12_readTurner_97 (by intros; omega) ?_
      intro v1927 h1928
      refine q_callVi hE (M' := mX12_readPart) (as := [_, _, _]) dX12_readTurner_98 lk12_249 inX12_readPart seX12_readPart myX12_readPart (by decide) ⟨by decide, by decide⟩ rfl (kR15 hS73.1 ta0) (Nat.le_of_ble_eq_true rfl) rfl rfl (by decide) (by decide) (k_X12_readPart hS73.1 ta0 (by decide)) ?_
      rintro v1933 cn' K' N' I1929 R1930 L1931 ⟨rfl, rfl, rfl, rfl, g1932, p1934, p1935, p1936, p1937, p1938, -⟩
      have hS1939 := hS73.tr g1932 (by decide +kernel) (by decide +kernel)
      have c1940 : I1929 a1 4 = v11 := (g1932.cell ta1 (by decide +kernel)).trans c74
      obtain ⟨v1941, c1942⟩ : ∃ v, I1929 a0 9 = v := ⟨_, rfl⟩
      have b1943 := iv15_9 hS1939.1 ta0 c1942
      have p1944 := p1934
      rw [c77] at p1944
      rw [c1942] at p1944
      obtain ⟨v1945, c1946⟩ : ∃ v, I1929 a0 8 = v := ⟨_, rfl⟩
      have b1947 := iv15_8 hS1939.1 ta0 c1946
      have p1948 := p1935
      rw [c1946] at p1948
      rw [c80] at p1948
      have p1949 := p1936
      rw [c1942] at p1949
      rw [c1946] at p1949
      rw [c80] at p1949
      obtain ⟨v1950, c1951⟩ : ∃ v, I1929 a0 13 = v := ⟨_, rfl⟩
      have p1952 := p1937
      rw [c77] at p1952
      rw [c75] at p1952
      rw [c1942] at p1952
      rw [c1951] at p1952
      have p1953 := p1938
      refine tr_istore dX12_readTurner_101 (by decide) (by decide) ?_
      refine tr_aload_n dX12_readTurner_103 rfl ?_
      refine tr_ldcwS dX12_readTurner_104 ld12_272 ?_
      refine tr_iload dX12_readTurner_107 rfl ?_
      refine q_iconst dX12_readTurner_109 (by decide) ?_
      intro v1954 h1955
      refine q_iaddE dX12_readTurner_110 (by intros; omega) ?_
      intro v1956 h1957
      refine tr_aload_n dX12_readTurner_111 rfl ?_
      refine tr_getR dX12_readTurner_112 fl12_188 (kR15 hS1939.1 ta0) d2 ?_
      refine q_getI dX12_readTurner_115 fl12_192 (kR14 hS1939.1 ta1) ((hS1939.cell ta1 (by decide +kernel)).trans c1923) ?_
      refine q_callVi hE (M' := mX12_readPart) (as := [_, _, _]) dX12_readTurner_118 lk12_249 inX12_readPart seX12_readPart myX12_readPart (by decide) ⟨by decide, by decide⟩ rfl (kR15 hS1939.1 ta0) (Nat.le_of_ble_eq_true rfl) rfl rfl (by decide) (by decide) (k_X12_readPart hS1939.1 ta0 (by decide)) ?_
      rintro v1962 cn' K' N' I1958 R1959 L1960 ⟨rfl, rfl, rfl, rfl, g1961, p1963, p1964, p1965, p1966, p1967, -⟩
      have hS1968 := hS1939.tr g1961 (by decide +kernel) (by decide +kernel)
      have c1969 : I1958 a1 4 = v11 := (g1961.cell ta1 (by decide +kernel)).trans c1940
      obtain ⟨v1970, c1971⟩ : ∃ v, I1958 a0 9 = v := ⟨_, rfl⟩
      have b1972 := iv15_9 hS1968.1 ta0 c1971
      have p1973 := p1963
      rw [c1942] at p1973
      rw [c1971] at p1973
      obtain ⟨v1974, c1975⟩ : ∃ v, I1958 a0 8 = v := ⟨_, rfl⟩
      have b1976 := iv15_8 hS1968.1 ta0 c1975
      have p1977 := p1964
      rw [c1975] at p1977
      rw [c1946] at p1977
      have p1978 := p1965
      rw [c1971] at p1978
      rw [c1975] at p1978
      rw [c1946] at p1978
      obtain ⟨v1979, c1980⟩ : ∃ v, I1958 a0 13 = v := ⟨_, rfl⟩
      have p1981 := p1966
      rw [c1942] at p1981
      rw [c1951] at p1981
      rw [c1971] at p1981
      rw [c1980] at p1981
      have p1982 := p1967
      refine tr_istore dX12_readTurner_121 (by decide) (by decide) ?_
      refine tr_aload_n dX12_readTurner_123 rfl ?_
      refine tr_ldcwS dX12_readTurner_124 ld12_325 ?_
      refine q_iconst dX12_readTurner_127 (by decide) ?_
      intro v1983 h1984
      refine q_bipush dX12_readTurner_128 (by decide +kernel) ?_
      intro v1985 h1986
      refine q_callVi hE (M' := mX12_readPart) (as := [_, _, _]) dX12_readTurner_130 lk12_249 inX12_readPart seX12_readPart myX12_readPart (by decide) ⟨by decide, by decide⟩ rfl (kR15 hS1968.1 ta0) (Nat.le_of_ble_eq_true rfl) rfl rfl (by decide) (by decide) (k_X12_readPart hS1968.1 ta0 (by decide)) ?_
      rintro v1991 cn' K' N' I1987 R1988 L1989 ⟨rfl, rfl, rfl, rfl, g1990, p1992, p1993, p1994, p1995, p1996, -⟩
      have hS1997 := hS1968.tr g1990 (by decide +kernel) (by decide +kernel)
      have c1998 : I1987 a1 4 = v11 := (g1990.cell ta1 (by decide +kernel)).trans c1969
      obtain ⟨v1999, c2000⟩ : ∃ v, I1987 a0 9 = v := ⟨_, rfl⟩
      have b2001 := iv15_9 hS1997.1 ta0 c2000
      have p2002 := p1992
      rw [c1971] at p2002
      rw [c2000] at p2002
      obtain ⟨v2003, c2004⟩ : ∃ v, I1987 a0 8 = v := ⟨_, rfl⟩
      have b2005 := iv15_8 hS1997.1 ta0 c2004
      have p2006 := p1993
      rw [c2004] at p2006
      rw [c1975] at p2006
      have p2007 := p1994
      rw [c2000] at p2007
      rw [c2004] at p2007
      rw [c1975] at p2007
      obtain ⟨v2008, c2009⟩ : ∃ v, I1987 a0 13 = v := ⟨_, rfl⟩
      have p2010 := p1995
      rw [c1971] at p2010
      rw [c1980] at p2010
      rw [c2000] at p2010
      rw [c2009] at p2010
      have p2011 := p1996
      refine tr_istore dX12_readTurner_133 (by decide) (by decide) ?_
      refine tr_aload_n dX12_readTurner_135 rfl ?_
      refine tr_ldcwS dX12_readTurner_136 ld12_327 ?_
      refine q_iconst dX12_readTurner_139 (by decide) ?_
      intro v2012 h2013
      refine q_bipush dX12_readTurner_140 (by decide +kernel) ?_
      intro v2014 h2015
      refine q_callVi hE (M' := mX12_readPart) (as := [_, _, _]) dX12_readTurner_142 lk12_249 inX12_readPart seX12_readPart myX12_readPart (by decide) ⟨by decide, by decide⟩ rfl (kR15 hS1997.1 ta0) (Nat.le_of_ble_eq_true rfl) rfl rfl (by decide) (by decide) (k_X12_readPart hS1997.1 ta0 (by decide)) ?_
      rintro v2020 cn' K' N' I2016 R2017 L2018 ⟨rfl, rfl, rfl, rfl, g2019, p2021, p2022, p2023, p2024, p2025, -⟩
      have hS2026 := hS1997.tr g2019 (by decide +kernel) (by decide +kernel)
      have c2027 : I2016 a1 4 = v11 := (g2019.cell ta1 (by decide +kernel)).trans c1998
      obtain ⟨v2028, c2029⟩ : ∃ v, I2016 a0 9 = v := ⟨_, rfl⟩
      have b2030 := iv15_9 hS2026.1 ta0 c2029
      have p2031 := p2021
      rw [c2000] at p2031
      rw [c2029] at p2031
      obtain ⟨v2032, c2033⟩ : ∃ v, I2016 a0 8 = v := ⟨_, rfl⟩
      have b2034 := iv15_8 hS2026.1 ta0 c2033
      have p2035 := p2022
      rw [c2033] at p2035
      rw [c2004] at p2035
      have p2036 := p2023
      rw [c2029] at p2036
      rw [c2033] at p2036
      rw [c2004] at p2036
      obtain ⟨v2037, c2038⟩ : ∃ v, I2016 a0 13 = v := ⟨_, rfl⟩
      have p2039 := p2024
      rw [c2000] at p2039
      rw [c2009] at p2039
      rw [c2029] at p2039
      rw [c2038] at p2039
      have p2040 := p2025
      refine tr_istore dX12_readTurner_145 (by decide) (by decide) ?_
      refine tr_aload_n dX12_readTurner_147 rfl ?_
      refine tr_ldcS dX12_readTurner_148 ld12_253 ?_
      refine q_callVv hE (M' := mX12_needs) (as := [_]) dX12_readTurner_150 lk12_157 inX12_needs seX12_needs myX12_needs (by decide) ⟨by decide, by decide⟩ rfl (kR15 hS2026.1 ta0) (Nat.le_of_ble_eq_true rfl) rfl rfl (by decide) (by decide) (k_X12_needs hS2026.1 ta0 (by decide)) ?_
      rintro cn' K' N' I2041 R2042 L2043 ⟨rfl, rfl, rfl, rfl, g2044, p2046, p2047, p2048, p2049, -⟩
      have hS2050 := hS2026.tr g2044 (by decide +kernel) (by decide +kernel)
      have c2051 : I2041 a1 4 = v11 := (g2044.cell ta1 (by decide +kernel)).trans c2027
      obtain ⟨v2052, c2053⟩ : ∃ v, I2041 a0 9 = v := ⟨_, rfl⟩
      have b2054 := iv15_9 hS2050.1 ta0 c2053
      have p2055 := p2046
      rw [c2029] at p2055
      rw [c2053] at p2055
      obtain ⟨v2056, c2057⟩ : ∃ v, I2041 a0 8 = v := ⟨_, rfl⟩
      have b2058 := iv15_8 hS2050.1 ta0 c2057
      have p2059 := p2047
      rw [c2057] at p2059
      rw [c2033] at p2059
      have p2060 := p2048
      rw [c2053] at p2060
      rw [c2057] at p2060
      rw [c2033] at p2060
      obtain ⟨v2061, c2062⟩ : ∃ v, I2041 a0 13 = v := ⟨_, rfl⟩
      have p2063 := p2049
      rw [c2029] at p2063
      rw [c2038] at p2063
      rw [c2053] at p2063
      rw [c2062] at p2063
      refine q_iconst dX12_readTurner_153 (by decide) ?_
      intro v2064 h2065
      refine tr_istore dX12_readTurner_154 (by decide) (by decide) ?_
      refine q_iconst dX12_readTurner_156 (by decide) ?_
      intro v2066 h2067
      refine tr_istore dX12_readTurner_157 (by decide) (by decide) ?_
      have lp2094 : ∀ (fu : Nat) (ls : Nat → Option Value) (v2068 : Int32) (v2069 : Int32) (I2079 : cz_I) (L2080 : cz_L) (v2082 : Int32) (v2084 : Int32) (v2086 : Int32), ls 0 = some (.ref a0) → ls 1 = some (.long y45) → ls 3 = some (.int v1915) → ls 4 = some (.int v1933) → ls 5 = some (.int v1962) → ls 6 = some (.int v1991) → ls 7 = some (.int v2020) → ls 8 = some (.int v2068) → ls 9 = some (.int v2069) → St T cn K N 0 wi_X12_readTurner wr_X12_readTurner I0 R0 I2079 R0 → I2079 a0 9 = v2082 → I2079 a0 8 = v2084 → I2079 a0 13 = v2086 → (v3.toInt = 5 → v2082.toInt = 5) → v2084.toInt ≥ v6.toInt → ((2 ≤ v2082.toInt ∧ v2082.toInt ≤ 4) → v2084.toInt ≥ v6.toInt + 1) → ((v3.toInt = 5 → v9.toInt ≥ 1) → (v2082.toInt = 5 → v2086.toInt ≥ 1)) → 0 ≤ v2069.toInt → v2069.toInt ≤ 1 → (-v2084.toInt + v2069.toInt + 900).toNat < fu → Tr X mX12_readTurner 159 ls [] cn K N I2079 R0 L2080 0 0 := by
        intro fu
        induction fu with
        | zero => intros; rename_i hz; exact absurd hz (Nat.not_lt_zero _)
        | succ fu ih2094 =>
          intro ls v2068 v2069 I2079 L2080 v2082 v2084 v2086 hl2070 hl2071 hl2072 hl2073 hl2074 hl2075 hl2076 hl2077 hl2078 hS2081 c2083 c2085 c2087 g2088 g2089 g2090 g2091 g2092 g2093 hm2094
          have b2096 := iv15_9 hS2081.1 ta0 c2083
          have b2097 := iv15_8 hS2081.1 ta0 c2085
          refine tr_iload dX12_readTurner_159 hl2078 ?_
          refine q_if_eq 227 dX12_readTurner_161 (by decide) (fun h2098 => ?_) (fun h2098 => ?_)
          · skip
            refine tr_aload_n dX12_readTurner_227 hl2070 ?_
            refine q_getI dX12_readTurner_228 fl12_99 (kR15 hS2081.1 ta0) c2083 ?_
            refine q_iconst dX12_readTurner_231 (by decide) ?_
            intro v2099 h2100
            refine q_icmp_ne 236 dX12_readTurner_232 (by decide) (fun h2101 => ?_) (fun h2101 => ?_)
            · skip
              refine tr_aload_n dX12_readTurner_236 hl2070 ?_
              refine tr_getR dX12_readTurner_237 fl12_188 (kR15 hS2081.1 ta0) d2 ?_
              obtain ⟨v2102, c2103⟩ : ∃ v, I2079 a1 4 = v := ⟨_, rfl⟩
              have b2104 := iv14_4 hS2081.1 ta1 c2103
              refine q_getI dX12_readTurner_240 fl12_315 (kR14 hS2081.1 ta1) c2103 ?_
              refine tr_istore dX12_readTurner_243 (by decide) (by decide) ?_
              refine tr_aload_n dX12_readTurner_245 hl2070 ?_
              refine tr_lload_n dX12_readTurner_246 hl2071 ?_
              refine q_iconst dX12_readTurner_247 (by decide) ?_
              intro v2105 h2106
              refine tr_iload dX12_readTurner_248 rfl ?_
              obtain ⟨v2108, c2109⟩ : ∃ v, I2079 a1 7 = v := ⟨_, rfl⟩
              have b2110 := iv14_7 hS2081.1 ta1 c2109
              obtain ⟨v2111, c2112⟩ : ∃ v, I0 a1 3 = v := ⟨_, rfl⟩
              have b2113 := iv14_3 hW0 ta1 c2112
              have p2107 := hS2081.1.2.2.2.2.1 a0 ta0 _ d2
              rw [c2109, ((hS2081.cell ta1 (by decide +kernel)).trans c2112), c2103] at p2107
              refine q_callVv hE (M' := mX12_names) (as := [_, _, _]) dX12_readTurner_250 lk12_293 inX12_names seX12_names myX12_names (by decide) ⟨by decide, by decide⟩ rfl (kR15 hS2081.1 ta0) (Nat.le_of_ble_eq_true rfl) rfl rfl (by decide) (by decide) (k_X12_names hS2081.1 ta0 (fun q0 z0 => by obtain rfl := Option.some.inj ((d2).symm.trans z0); (try rw [c2109]); (try omega)) ⟨_, d2⟩) ?_
              rintro cn' K' N' I2114 R2115 L2116 ⟨rfl, rfl, rfl, rfl, g2117, -⟩
              have hS2119 := hS2081.tr g2117 (by decide +kernel) (by decide +kernel)
              have c2120 : I2114 a0 9 = v2082 := (g2117.cell ta0 (by decide +kernel)).trans c2083
              have c2121 : I2114 a0 8 = v2084 := (g2117.cell ta0 (by decide +kernel)).trans c2085
              have c2122 : I2114 a0 13 = v2086 := (g2117.cell ta0 (by decide +kernel)).trans c2087
              have c2123 : I2114 a1 4 = v2102 := (g2117.cell ta1 (by decide +kernel)).trans c2103
              refine tr_aload_n dX12_readTurner_253 hl2070 ?_
              refine tr_getR dX12_readTurner_254 fl12_188 (kR15 hS2119.1 ta0) d2 ?_
              obtain ⟨a2124, d2125, ta2124⟩ := rf14_20 hW0 ta1
              refine tr_getR dX12_readTurner_257 fl12_333 (kR14 hS2119.1 ta1) d2125 ?_
              refine tr_iload dX12_readTurner_260 rfl ?_
              refine tr_iload_n dX12_readTurner_262 hl2072 ?_
              refine q_iast dX12_readTurner_263 (kR63 hS2119.1 ta2124) (ti_in (nR63 hS2119.1 ta2124) (by omega) (by omega)) hS2119 ta2124 (iokF rfl) rfl (by rfl) ?_
              intro I2126 hS2127 e2129 f2128
              have c2130 : I2126 a0 9 = v2082 := (f2128 _ _ (fun q => by have z := ta0; rw [q.1, ta2124] at z; exact absurd z (by decide))).trans c2120
              have c2131 : I2126 a0 8 = v2084 := (f2128 _ _ (fun q => by have z := ta0; rw [q.1, ta2124] at z; exact absurd z (by decide))).trans c2121
              have c2132 : I2126 a0 13 = v2086 := (f2128 _ _ (fun q => by have z := ta0; rw [q.1, ta2124] at z; exact absurd z (by decide))).trans c2122
              have c2133 : I2126 a1 4 = v2102 := (f2128 _ _ (fun q => by have z := ta1; rw [q.1, ta2124] at z; exact absurd z (by decide))).trans c2123
              refine tr_aload_n dX12_readTurner_264 hl2070 ?_
              refine tr_getR dX12_readTurner_265 fl12_188 (kR15 hS2127.1 ta0) d2 ?_
              obtain ⟨a2134, d2135, ta2134⟩ := rf14_21 hW0 ta1
              refine tr_getR dX12_readTurner_268 fl12_336 (kR14 hS2127.1 ta1) d2135 ?_
              refine tr_iload dX12_readTurner_271 rfl ?_
              refine tr_iload dX12_readTurner_273 hl2073 ?_
              refine q_iast dX12_readTurner_275 (kR64 hS2127.1 ta2134) (ti_in (nR64 hS2127.1 ta2134) (by omega) (by omega)) hS2127 ta2134 (iokF rfl) rfl (by rfl) ?_
              intro I2136 hS2137 e2139 f2138
              have c2140 : I2136 a0 9 = v2082 := (f2138 _ _ (fun q => by have z := ta0; rw [q.1, ta2134] at z; exact absurd z (by decide))).trans c2130
              have c2141 : I2136 a0 8 = v2084 := (f2138 _ _ (fun q => by have z := ta0; rw [q.1, ta2134] at z; exact absurd z (by decide))).trans c2131
              have c2142 : I2136 a0 13 = v2086 := (f2138 _ _ (fun q => by have z := ta0; rw [q.1, ta2134] at z; exact absurd z (by decide))).trans c2132
              have c2143 : I2136 a1 4 = v2102 := (f2138 _ _ (fun q => by have z := ta1; rw [q.1, ta2134] at z; exact absurd z (by decide))).trans c2133
              refine tr_aload_n dX12_readTurner_276 hl2070 ?_
              refine tr_getR dX12_readTurner_277 fl12_188 (kR15 hS2137.1 ta0) d2 ?_
              obtain ⟨a2144, d2145, ta2144⟩ := rf14_22 hW0 ta1
              refine tr_getR dX12_readTurner_280 fl12_339 (kR14 hS2137.1 ta1) d2145 ?_
              refine tr_iload dX12_readTurner_283 rfl ?_
              refine tr_iload dX12_readTurner_285 hl2074 ?_
              refine q_iast dX12_readTurner_287 (kR65 hS2137.1 ta2144) (ti_in (nR65 hS2137.1 ta2144) (by omega) (by omega)) hS2137 ta2144 (iokF rfl) rfl (by rfl) ?_
              intro I2146 hS2147 e2149 f2148
              have c2150 : I2146 a0 9 = v2082 := (f2148 _ _ (fun q => by have z := ta0; rw [q.1, ta2144] at z; exact absurd z (by decide))).trans c2140
              have c2151 : I2146 a0 8 = v2084 := (f2148 _ _ (fun q => by have z := ta0; rw [q.1, ta2144] at z; exact absurd z (by decide))).trans c2141
              have c2152 : I2146 a0 13 = v2086 := (f2148 _ _ (fun q => by have z := ta0; rw [q.1, ta2144] at z; exact absurd z (by decide))).trans c2142
              have c2153 : I2146 a1 4 = v2102 := (f2148 _ _ (fun q => by have z := ta1; rw [q.1, ta2144] at z; exact absurd z (by decide))).trans c2143
              refine tr_aload_n dX12_readTurner_288 hl2070 ?_
              refine tr_getR dX12_readTurner_289 fl12_188 (kR15 hS2147.1 ta0) d2 ?_
              obtain ⟨a2154, d2155, ta2154⟩ := rf14_23 hW0 ta1
              refine tr_getR dX12_readTurner_292 fl12_342 (kR14 hS2147.1 ta1) d2155 ?_
              refine tr_iload dX12_readTurner_295 rfl ?_
              refine tr_iload dX12_readTurner_297 hl2075 ?_
              refine q_iast dX12_readTurner_299 (kR66 hS2147.1 ta2154) (ti_in (nR66 hS2147.1 ta2154) (by omega) (by omega)) hS2147 ta2154 (iokF rfl) rfl (by rfl) ?_
              intro I2156 hS2157 e2159 f2158
              have c2160 : I2156 a0 9 = v2082 := (f2158 _ _ (fun q => by have z := ta0; rw [q.1, ta2154] at z; exact absurd z (by decide))).trans c2150
              have c2161 : I2156 a0 8 = v2084 := (f2158 _ _ (fun q => by have z := ta0; rw [q.1, ta2154] at z; exact absurd z (by decide))).trans c2151
              have c2162 : I2156 a0 13 = v2086 := (f2158 _ _ (fun q => by have z := ta0; rw [q.1, ta2154] at z; exact absurd z (by decide))).trans c2152
              have c2163 : I2156 a1 4 = v2102 := (f2158 _ _ (fun q => by have z := ta1; rw [q.1, ta2154] at z; exact absurd z (by decide))).trans c2153
              refine tr_aload_n dX12_readTurner_300 hl2070 ?_
              refine tr_getR dX12_readTurner_301 fl12_188 (kR15 hS2157.1 ta0) d2 ?_
              obtain ⟨a2164, d2165, ta2164⟩ := rf14_24 hW0 ta1
              refine tr_getR dX12_readTurner_304 fl12_344 (kR14 hS2157.1 ta1) d2165 ?_
              refine tr_iload dX12_readTurner_307 rfl ?_
              refine tr_iload dX12_readTurner_309 hl2076 ?_
              refine q_iast dX12_readTurner_311 (kR67 hS2157.1 ta2164) (ti_in (nR67 hS2157.1 ta2164) (by omega) (by omega)) hS2157 ta2164 (iokF rfl) rfl (by rfl) ?_
              intro I2166 hS2167 e2169 f2168
              have c2170 : I2166 a0 9 = v2082 := (f2168 _ _ (fun q => by have z := ta0; rw [q.1, ta2164] at z; exact absurd z (by decide))).trans c2160
              have c2171 : I2166 a0 8 = v2084 := (f2168 _ _ (fun q => by have z := ta0; rw [q.1, ta2164] at z; exact absurd z (by decide))).trans c2161
              have c2172 : I2166 a0 13 = v2086 := (f2168 _ _ (fun q => by have z := ta0; rw [q.1, ta2164] at z; exact absurd z (by decide))).trans c2162
              have c2173 : I2166 a1 4 = v2102 := (f2168 _ _ (fun q => by have z := ta1; rw [q.1, ta2164] at z; exact absurd z (by decide))).trans c2163
              refine tr_aload_n dX12_readTurner_312 hl2070 ?_
              refine tr_getR dX12_readTurner_313 fl12_188 (kR15 hS2167.1 ta0) d2 ?_
              obtain ⟨a2174, d2175, ta2174⟩ := rf14_25 hW0 ta1
              refine tr_getR dX12_readTurner_316 fl12_346 (kR14 hS2167.1 ta1) d2175 ?_
              refine tr_iload dX12_readTurner_319 rfl ?_
              refine tr_iload dX12_readTurner_321 hl2077 ?_
              refine q_iast dX12_readTurner_323 (kR68 hS2167.1 ta2174) (ti_in (nR68 hS2167.1 ta2174) (by omega) (by omega)) hS2167 ta2174 (iokF rfl) rfl (by rfl) ?_
              intro I2176 hS2177 e2179 f2178
              have c2180 : I2176 a0 9 = v2082 := (f2178 _ _ (fun q => by have z := ta0; rw [q.1, ta2174] at z; exact absurd z (by decide))).trans c2170
              have c2181 : I2176 a0 8 = v2084 := (f2178 _ _ (fun q => by have z := ta0; rw [q.1, ta2174] at z; exact absurd z (by decide))).trans c2171
              have c2182 : I2176 a0 13 = v2086 := (f2178 _ _ (fun q => by have z := ta0; rw [q.1, ta2174] at z; exact absurd z (by decide))).trans c2172
              have c2183 : I2176 a1 4 = v2102 := (f2178 _ _ (fun q => by have z := ta1; rw [q.1, ta2174] at z; exact absurd z (by decide))).trans c2173
              refine tr_aload_n dX12_readTurner_324 hl2070 ?_
              refine tr_getR dX12_readTurner_325 fl12_188 (kR15 hS2177.1 ta0) d2 ?_
              refine tr_dup dX12_readTurner_328 rfl ?_
              refine q_getI dX12_readTurner_329 fl12_315 (kR14 hS2177.1 ta1) c2183 ?_
              refine q_iconst dX12_readTurner_332 (by decide) ?_
              intro v2184 h2185
              refine q_iaddE dX12_readTurner_333 (by intros; omega) ?_
              intro v2186 h2187
              refine q_putX dX12_readTurner_334 fl12_315 (kR14 hS2177.1 ta1) (Or.inl rfl) hS2177 ta1 (by decide +kernel) (hS2177.1.putN (d' := 0) ta0 d2 (Or.inr (Or.inr rfl)) (by rw [c2183]; omega) (by decide) (by show (0 : Int) ≤ v2186.toInt ∧ v2186.toInt ≤ (5 : Int); omega)) ?_
              intro I2188 hS2189 e2190 f2191
              have c2192 : I2188 a0 9 = v2082 := (f2191 _ _ (fun q => absurd q.2 (by decide))).trans c2180
              have c2193 : I2188 a0 8 = v2084 := (f2191 _ _ (fun q => absurd q.2 (by decide))).trans c2181
              have c2194 : I2188 a0 13 = v2086 := (f2191 _ _ (fun q => absurd q.2 (by decide))).trans c2182
              exact tr_vret hZ dX12_readTurner_337 rfl (by decide) (by decide) ⟨rfl, rfl, rfl, rfl, rfl, hS2189, (by (try rw [c4]); (try rw [c2192]); (try omega)), (by (try rw [c2193]); (try rw [c7]); (try omega)), (by (try rw [c2192]); (try rw [c2193]); (try rw [c7]); (try omega)), (by (try rw [c4]); (try rw [c10]); (try rw [c2192]); (try rw [c2194]); (try omega)), trivial⟩
            · skip
              exact tr_vret hZ dX12_readTurner_235 rfl (by decide) (by decide) ⟨rfl, rfl, rfl, rfl, rfl, hS2081, (by (try rw [c4]); (try rw [c2083]); (try omega)), (by (try rw [c2085]); (try rw [c7]); (try omega)), (by (try rw [c2083]); (try rw [c2085]); (try rw [c7]); (try omega)), (by (try rw [c4]); (try rw [c10]); (try rw [c2083]); (try rw [c2087]); (try omega)), trivial⟩
          · skip
            refine tr_aload_n dX12_readTurner_164 hl2070 ?_
            refine q_getI dX12_readTurner_165 fl12_99 (kR15 hS2081.1 ta0) c2083 ?_
            refine q_iconst dX12_readTurner_168 (by decide) ?_
            intro v2195 h2196
            refine q_icmp_eq 227 dX12_readTurner_169 (by decide) (fun h2197 => ?_) (fun h2197 => ?_)
            · skip
              refine tr_aload_n dX12_readTurner_227 hl2070 ?_
              refine q_getI dX12_readTurner_228 fl12_99 (kR15 hS2081.1 ta0) c2083 ?_
              refine q_iconst dX12_readTurner_231 (by decide) ?_
              intro v2198 h2199
              refine q_icmp_ne 236 dX12_readTurner_232 (by decide) (fun h2200 => ?_) (fun h2200 => ?_)
              · skip
                exfalso; omega
              · skip
                exact tr_vret hZ dX12_readTurner_235 rfl (by decide) (by decide) ⟨rfl, rfl, rfl, rfl, rfl, hS2081, (by (try rw [c4]); (try rw [c2083]); (try omega)), (by (try rw [c2085]); (try rw [c7]); (try omega)), (by (try rw [c2083]); (try rw [c2085]); (try rw [c7]); (try omega)), (by (try rw [c4]); (try rw [c10]); (try rw [c2083]); (try rw [c2087]); (try omega)), trivial⟩
            · skip
              refine tr_aload_n dX12_readTurner_172 hl2070 ?_
              refine q_iconst dX12_readTurner_173 (by decide) ?_
              intro v2201 h2202
              refine tr_aload_n dX12_readTurner_174 hl2070 ?_
              refine tr_getR dX12_readTurner_175 fl12_188 (kR15 hS2081.1 ta0) d2 ?_
              obtain ⟨v2203, c2204⟩ : ∃ v, I0 a1 1 = v := ⟨_, rfl⟩
              have b2205 := iv14_1 hW0 ta1 c2204
              refine q_getI dX12_readTurner_178 fl12_263 (kR14 hS2081.1 ta1) ((hS2081.cell ta1 (by decide +kernel)).trans c2204) ?_
              refine q_iconst dX12_readTurner_181 (by decide) ?_
              intro v2206 h2207
              refine q_isubE dX12_readTurner_182 (by intros; omega) ?_
              intro v2208 h2209
              refine q_callVi hE (M' := mX12_bounded) (as := [_, _]) dX12_readTurner_183 lk12_153 inX12_bounded seX12_bounded myX12_bounded (by decide) ⟨by decide, by decide⟩ rfl (kR15 hS2081.1 ta0) (Nat.le_of_ble_eq_true rfl) rfl rfl (by decide) (by decide) (k_X12_bounded hS2081.1 ta0) ?_
              rintro v2214 cn' K' N' I2210 R2211 L2212 ⟨rfl, rfl, rfl, rfl, rfl, g2213, p2215, p2216, p2217, p2218, -⟩
              have hS2219 := hS2081.tr g2213 (by decide +kernel) (by decide +kernel)
              have c2220 : I2210 a0 8 = v2084 := (g2213.cell ta0 (by decide +kernel)).trans c2085
              obtain ⟨v2221, c2222⟩ : ∃ v, I2210 a0 9 = v := ⟨_, rfl⟩
              have b2223 := iv15_9 hS2219.1 ta0 c2222
              have p2224 := p2215
              rw [c2083] at p2224
              rw [c2222] at p2224
              have p2225 := p2216
              have p2226 := p2217
              rw [c2222] at p2226
              rw [c2083] at p2226
              obtain ⟨v2227, c2228⟩ : ∃ v, I2210 a0 13 = v := ⟨_, rfl⟩
              have p2229 := p2218
              rw [c2083] at p2229
              rw [c2087] at p2229
              rw [c2222] at p2229
              rw [c2228] at p2229
              refine tr_istore dX12_readTurner_186 (by decide) (by decide) ?_
              refine tr_iload dX12_readTurner_188 hl2077 ?_
              refine tr_iload dX12_readTurner_190 rfl ?_
              refine q_callSi hE (M' := mX12_has) (as := [_, _]) dX12_readTurner_192 lk12_329 inX12_has myX12_has ⟨by decide, by decide⟩ rfl (Nat.le_of_ble_eq_true rfl) rfl rfl (by decide) (by decide) (k_X12_has hS2219.1 ) ?_
              rintro v2234 cn' K' N' I2230 R2231 L2232 ⟨rfl, rfl, rfl, rfl, rfl, rfl, h2235, -⟩
              refine q_if_eq 203 dX12_readTurner_195 (by decide) (fun h2236 => ?_) (fun h2236 => ?_)
              · skip
                refine tr_aload_n dX12_readTurner_203 hl2070 ?_
                refine q_callVv hE (M' := mX12_goesOn) (as := []) dX12_readTurner_204 lk12_142 inX12_goesOn seX12_goesOn myX12_goesOn (by decide) ⟨by decide, by decide⟩ rfl (kR15 hS2219.1 ta0) (Nat.le_of_ble_eq_true rfl) rfl rfl (by decide) (by decide) (k_X12_goesOn hS2219.1 ta0) ?_
                rintro cn' K' N' I2237 R2238 L2239 ⟨rfl, rfl, rfl, rfl, g2240, p2242, p2243, p2244, p2245, -⟩
                have hS2246 := hS2219.tr g2240 (by decide +kernel) (by decide +kernel)
                have c2247 : I2237 a0 13 = v2227 := (g2240.cell ta0 (by decide +kernel)).trans c2228
                obtain ⟨v2248, c2249⟩ : ∃ v, I2237 a0 9 = v := ⟨_, rfl⟩
                have b2250 := iv15_9 hS2246.1 ta0 c2249
                obtain ⟨v2251, c2252⟩ : ∃ v, I2237 a0 8 = v := ⟨_, rfl⟩
                have b2253 := iv15_8 hS2246.1 ta0 c2252
                have p2254 := p2242
                rw [c2222] at p2254
                rw [c2249] at p2254
                rw [c2252] at p2254
                rw [c2220] at p2254
                have p2255 := p2243
                rw [c2222] at p2255
                rw [c2249] at p2255
                have p2256 := p2244
                rw [c2252] at p2256
                rw [c2220] at p2256
                have p2257 := p2245
                rw [c2222] at p2257
                rw [c2249] at p2257
                rw [c2252] at p2257
                rw [c2220] at p2257
                refine tr_iload dX12_readTurner_207 hl2077 ?_
                refine q_iconst dX12_readTurner_209 (by decide) ?_
                intro v2258 h2259
                refine tr_iload dX12_readTurner_210 rfl ?_
                refine q_ishlE dX12_readTurner_212 (by omega) (by omega) ?_
                intro v2260 h2261
                refine q_ior dX12_readTurner_213 ?_
                intro v2262
                refine tr_istore dX12_readTurner_214 (by decide) (by decide) ?_
                refine tr_aload_n dX12_readTurner_216 hl2070 ?_
                refine q_bipush dX12_readTurner_217 (by decide +kernel) ?_
                intro v2263 h2264
                refine q_callVi hE (M' := mX12_eatsSign) (as := [_]) dX12_readTurner_219 lk12_221 inX12_eatsSign seX12_eatsSign myX12_eatsSign (by decide) ⟨by decide, by decide⟩ rfl (kR15 hS2246.1 ta0) (Nat.le_of_ble_eq_true rfl) rfl rfl (by decide) (by decide) (k_X12_eatsSign hS2246.1 ta0) ?_
                rintro v2269 cn' K' N' I2265 R2266 L2267 ⟨rfl, rfl, rfl, rfl, g2268, h2270, p2271, p2272, p2273, -⟩
                have hS2274 := hS2246.tr g2268 (by decide +kernel) (by decide +kernel)
                have c2275 : I2265 a0 13 = v2227 := (g2268.cell ta0 (by decide +kernel)).trans c2247
                obtain ⟨v2276, c2277⟩ : ∃ v, I2265 a0 9 = v := ⟨_, rfl⟩
                have b2278 := iv15_9 hS2274.1 ta0 c2277
                obtain ⟨v2279, c2280⟩ : ∃ v, I2265 a0 8 = v := ⟨_, rfl⟩
                have b2281 := iv15_8 hS2274.1 ta0 c2280
                have p2282 := p2271
                rw [c2277] at p2282
                rw [c2249] at p2282
                rw [c2280] at p2282
                rw [c2252] at p2282
                have p2283 := p2272
                rw [c2249] at p2283
                rw [c2277] at p2283
                rw [c2280] at p2283
                rw [c2252] at p2283
                have p2284 := p2273
                rw [c2277] at p2284
                rw [c2280] at p2284
                rw [c2252] at p2284
                refine tr_istore dX12_readTurner_222 (by decide) (by decide) ?_
                refine tr_goto 159 dX12_readTurner_224 (by decide) ?_
                exact ih2094 _ v2262 v2269 I2265 L2267 v2276 v2279 v2227 hl2070 hl2071 hl2072 hl2073 hl2074 hl2075 hl2076 rfl rfl hS2274 c2277 c2280 c2275 (by omega) (by omega) (by omega) (by omega) (by omega) (by omega) (by omega)
              · skip
                refine tr_aload_n dX12_readTurner_198 hl2070 ?_
                refine q_iconst dX12_readTurner_199 (by decide) ?_
                intro v2285 h2286
                refine q_callVv hE (M' := mX12_flaw) (as := [_]) dX12_readTurner_200 lk12_145 inX12_flaw seX12_flaw myX12_flaw (by decide) ⟨by decide, by decide⟩ rfl (kR15 hS2219.1 ta0) (Nat.le_of_ble_eq_true rfl) rfl rfl (by decide) (by decide) (k_X12_flaw hS2219.1 ta0 (by omega)) ?_
                rintro cn' K' N' I2287 R2288 L2289 ⟨rfl, rfl, rfl, rfl, rfl, g2290, p2292, p2293, -⟩
                have hS2294 := hS2219.tr g2290 (by decide +kernel) (by decide +kernel)
                have c2295 : I2287 a0 8 = v2084 := (g2290.cell ta0 (by decide +kernel)).trans c2220
                obtain ⟨v2296, c2297⟩ : ∃ v, I2287 a0 9 = v := ⟨_, rfl⟩
                have b2298 := iv15_9 hS2294.1 ta0 c2297
                have p2299 := p2292
                rw [c2297] at p2299
                obtain ⟨v2300, c2301⟩ : ∃ v, I2287 a0 13 = v := ⟨_, rfl⟩
                have p2302 := p2293
                rw [c2222] at p2302
                rw [c2228] at p2302
                rw [c2301] at p2302
                refine tr_aload_n dX12_readTurner_203 hl2070 ?_
                refine q_callVv hE (M' := mX12_goesOn) (as := []) dX12_readTurner_204 lk12_142 inX12_goesOn seX12_goesOn myX12_goesOn (by decide) ⟨by decide, by decide⟩ rfl (kR15 hS2294.1 ta0) (Nat.le_of_ble_eq_true rfl) rfl rfl (by decide) (by decide) (k_X12_goesOn hS2294.1 ta0) ?_
                rintro cn' K' N' I2303 R2304 L2305 ⟨rfl, rfl, rfl, rfl, g2306, p2308, p2309, p2310, p2311, -⟩
                have hS2312 := hS2294.tr g2306 (by decide +kernel) (by decide +kernel)
                have c2313 : I2303 a0 13 = v2300 := (g2306.cell ta0 (by decide +kernel)).trans c2301
                obtain ⟨v2314, c2315⟩ : ∃ v, I2303 a0 9 = v := ⟨_, rfl⟩
                have b2316 := iv15_9 hS2312.1 ta0 c2315
                obtain ⟨v2317, c2318⟩ : ∃ v, I2303 a0 8 = v := ⟨_, rfl⟩
                have b2319 := iv15_8 hS2312.1 ta0 c2318
                have p2320 := p2308
                rw [c2297] at p2320
                rw [c2315] at p2320
                rw [c2318] at p2320
                rw [c2295] at p2320
                have p2321 := p2309
                rw [c2297] at p2321
                rw [c2315] at p2321
                have p2322 := p2310
                rw [c2318] at p2322
                rw [c2295] at p2322
                have p2323 := p2311
                rw [c2297] at p2323
                rw [c2315] at p2323
                rw [c2318] at p2323
                rw [c2295] at p2323
                refine tr_iload dX12_readTurner_207 hl2077 ?_
                refine q_iconst dX12_readTurner_209 (by decide) ?_
                intro v2324 h2325
                refine tr_iload dX12_readTurner_210 rfl ?_
                refine q_ishlE dX12_readTurner_212 (by omega) (by omega) ?_
                intro v2326 h2327
                refine q_ior dX12_readTurner_213 ?_
                intro v2328
                refine tr_istore dX12_readTurner_214 (by decide) (by decide) ?_
                refine tr_aload_n dX12_readTurner_216 hl2070 ?_
                refine q_bipush dX12_readTurner_217 (by decide +kernel) ?_
                intro v2329 h2330
                refine q_callVi hE (M' := mX12_eatsSign) (as := [_]) dX12_readTurner_219 lk12_221 inX12_eatsSign seX12_eatsSign myX12_eatsSign (by decide) ⟨by decide, by decide⟩ rfl (kR15 hS2312.1 ta0) (Nat.le_of_ble_eq_true rfl) rfl rfl (by decide) (by decide) (k_X12_eatsSign hS2312.1 ta0) ?_
                rintro v2335 cn' K' N' I2331 R2332 L2333 ⟨rfl, rfl, rfl, rfl, g2334, h2336, p2337, p2338, p2339, -⟩
                have hS2340 := hS2312.tr g2334 (by decide +kernel) (by decide +kernel)
                have c2341 : I2331 a0 13 = v2300 := (g2334.cell ta0 (by decide +kernel)).trans c2313
                obtain ⟨v2342, c2343⟩ : ∃ v, I2331 a0 9 = v := ⟨_, rfl⟩
                have b2344 := iv15_9 hS2340.1 ta0 c2343
                obtain ⟨v2345, c2346⟩ : ∃ v, I2331 a0 8 = v := ⟨_, rfl⟩
                have b2347 := iv15_8 hS2340.1 ta0 c2346
                have p2348 := p2337
                rw [c2343] at p2348
                rw [c2315] at p2348
                rw [c2346] at p2348
                rw [c2318] at p2348
                have p2349 := p2338
                rw [c2315] at p2349
                rw [c2343] at p2349
                rw [c2346] at p2349
                rw [c2318] at p2349
                have p2350 := p2339
                rw [c2343] at p2350
                rw [c2346] at p2350
                rw [c2318] at p2350
                refine tr_istore dX12_readTurner_222 (by decide) (by decide) ?_
                refine tr_goto 159 dX12_readTurner_224 (by decide) ?_
                exact ih2094 _ v2328 v2335 I2331 L2333 v2342 v2345 v2300 hl2070 hl2071 hl2072 hl2073 hl2074 hl2075 hl2076 rfl rfl hS2340 c2343 c2346 c2341 (by omega) (by omega) (by omega) (by omega) (by omega) (by omega) (by omega)
      exact lp2094 _ _ v2064 v2066 I2041 L2043 v2052 v2056 v2061 rfl rfl rfl rfl rfl rfl rfl rfl rfl hS2050 c2053 c2057 c2062 (by omega) (by omega) (by omega) (by omega) (by omega) (by omega) (Nat.lt_succ_self _)
    · skip
      exfalso; omega
