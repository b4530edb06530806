def wi_X12_readRising_1 : List Nat := [968, 969, 970, 971, 972, 973, 974, 3839]
def wr_X12_readRising_1 : List Nat := []
set_option maxHeartbeats 4000000 in
theorem k_X12_readRising_1 {l : Launch} {T : Nat → Nat} {cn : Nat} {K N : Nat → Nat} {I0 : cz_I} {R0 : cz_R} {L0 : cz_L} {d : Int} (hW0 : Wf T cn K N I0 R0 d) {a0 : Nat} (ta0 : T a0 = 15) {a1 : Nat} (ta1 : T a1 = 59) {x2 : Int32} (hx2 : 0 ≤ x2.toInt ∧ x2.toInt ≤ 0) {x3 : Int32} (hx3 : 8 ≤ x3.toInt ∧ x3.toInt ≤ 8) (nn4 : ∃ b, R0 a0 4 = some b) : ConE l mX12_readRising [.ref a0, .ref a1, .int x2, .int x3] cn K N I0 R0 L0 (ca_i (fun v cn' K' N' I' R' L' => cn = cn' ∧ K = K' ∧ N = N' ∧ R0 = R' ∧ St T cn K N d wi_X12_readRising_1 wr_X12_readRising_1 I0 R0 I' R0 ∧ (0 ≤ v.toInt ∧ v.toInt ≤ 8) ∧ EwI a0 I0 I' ∧ True)) := by
  refine ConE.of (by decide +kernel) rfl (Nat.le_of_ble_eq_true rfl) rfl (fun X hX hZ hE => ?_)
  subst hX
  have hS0 : St T cn K N d wi_X12_readRising_1 wr_X12_readRising_1 I0 R0 I0 R0 := St.rf0 hW0
  obtain ⟨a11, d12⟩ := nn4
  have ta11 : T a11 = 14 := hW0.rsN ta0 rfl d12
  refine q_iconst dX12_readRising_0 (by decide) ?_
  intro v13 h14
  refine tr_istore dX12_readRising_1 (by decide) (by decide) ?_
  refine q_iconst dX12_readRising_3 (by decide) ?_
  intro v15 h16
  refine tr_istore dX12_readRising_4 (by decide) (by decide) ?_
  refine q_iconst dX12_readRising_6 (by decide) ?_
  intro v17 h18
  refine tr_istore dX12_readRising_7 (by decide) (by decide) ?_
  have lp39 : ∀ (fu : Nat) (ls : Nat → Option Value) (v19 : Int32) (v20 : Int32) (v21 : Int32) (I29 : cz_I) (L30 : cz_L), ls 0 = some (.ref a0) → ls 1 = some (.ref a1) → ls 2 = some (.int x2) → ls 3 = some (.int x3) → ls 4 = some (.int v19) → ls 5 = some (.int v20) → ls 6 = some (.int v21) → St T cn K N d wi_X12_readRising_1 wr_X12_readRising_1 I0 R0 I29 R0 → EwI a0 I0 I29 → 0 ≤ v19.toInt → v19.toInt ≤ 8 → 0 ≤ v20.toInt → v20.toInt ≤ 240 → 0 ≤ v21.toInt → v21.toInt ≤ 1 → (-v19.toInt + 9).toNat < fu → Tr X mX12_readRising 9 ls [] cn K N I29 R0 L30 0 0 := by
    intro fu
    induction fu with
    | zero => intros; rename_i hz; exact absurd hz (Nat.not_lt_zero _)
    | succ fu ih39 =>
      intro ls v19 v20 v21 I29 L30 hl22 hl23 hl24 hl25 hl26 hl27 hl28 hS31 w32 g33 g34 g35 g36 g37 g38 hm39
      refine tr_iload dX12_readRising_9 hl28 ?_
      refine q_if_eq 92 dX12_readRising_11 (by decide) (fun h41 => ?_) (fun h41 => ?_)
      · skip
        refine tr_iload dX12_readRising_92 hl26 ?_
        exact tr_iret hZ dX12_readRising_94 rfl (by decide) (by decide) ⟨v19, rfl, rfl, rfl, rfl, rfl, hS31, (by exact om_0849edb3 g33 g34), w32, trivial⟩
      · skip
        refine tr_aload_n dX12_readRising_14 hl22 ?_
        obtain ⟨v42, c43⟩ : ∃ v, I29 a0 9 = v := ⟨_, rfl⟩
        have b44 := iv15_9 hS31.1 ta0 c43
        refine q_getI dX12_readRising_15 fl12_99 (kR15 hS31.1 ta0) c43 ?_
        refine q_iconst dX12_readRising_18 (by decide) ?_
        intro v45 h46
        refine q_icmp_eq 92 dX12_readRising_19 (by decide) (fun h47 => ?_) (fun h47 => ?_)
        · skip
          refine tr_iload dX12_readRising_92 hl26 ?_
          exact tr_iret hZ dX12_readRising_94 rfl (by decide) (by decide) ⟨v19, rfl, rfl, rfl, rfl, rfl, hS31, (by exact om_0849edb3 g33 g34), w32, trivial⟩
        · skip
          refine tr_aload_n dX12_readRising_22 hl22 ?_
          refine tr_iload dX12_readRising_23 hl27 ?_
          refine tr_aload_n dX12_readRising_25 hl22 ?_
          refine tr_getR dX12_readRising_26 fl12_188 (kR15 hS31.1 ta0) d12 ?_
          obtain ⟨v48, c49⟩ : ∃ v, I0 a11 0 = v := ⟨_, rfl⟩
          have b50 := iv14_0 hW0 ta11 c49
          refine q_getI dX12_readRising_29 fl12_192 (kR14 hS31.1 ta11) ((hS31.cell ta11 (by decide +kernel)).trans c49) ?_
          refine q_iconst dX12_readRising_32 (by decide) ?_
          intro v51 h52
          refine q_isubE dX12_readRising_33 (by intro j1 j2 j3 j4; exact om_c6626f59 b50.2 b50.1 h52) ?_
          intro v53 h54
          refine q_callVi hE (M' := mX12_bounded) (as := [_, _]) dX12_readRising_34 lk12_153 inX12_bounded seX12_bounded myX12_bounded (by decide) ⟨by decide, by decide⟩ rfl (kR15 hS31.1 ta0) (Nat.le_of_ble_eq_true rfl) rfl rfl (by decide) (by decide) (k_X12_bounded hS31.1 ta0) ?_
          rintro v59 cn' K' N' I55 R56 L57 ⟨rfl, rfl, rfl, rfl, rfl, g58, p60, p61, w62, -⟩
          have hS63 := hS31.tr g58 (by decide +kernel) (by decide +kernel)
          have w64 : EwI a0 I0 I55 := w32.ew w62
          have w65 : EwI a0 I29 I55 := (EwI.rf a0 I29).ew w62
          have b66 : 0 ≤ v59.toInt ∧ v59.toInt ≤ 240 := by exact om_317cd548 g35 g36 b50.2 b50.1 h52 h54 p60 p61
          clear p60
          obtain ⟨v67, c68⟩ : ∃ v, I55 a0 9 = v := ⟨_, rfl⟩
          have b69 := iv15_9 hS63.1 ta0 c68
          have gd70 : Gd (I55 a0 9) ((v20.toInt ≤ v59.toInt ∧ v59.toInt ≤ v53.toInt)) := p61
          clear p61
          refine tr_istore dX12_readRising_37 (by decide) (by decide) ?_
          refine tr_iload dX12_readRising_39 hl26 ?_
          refine tr_iload_n dX12_readRising_41 hl25 ?_
          refine q_icmp_ne 50 dX12_readRising_42 (by decide) (fun h71 => ?_) (fun h71 => ?_)
          · skip
            refine tr_aload_n dX12_readRising_50 hl22 ?_
            obtain ⟨v72, c73⟩ : ∃ v, I55 a0 8 = v := ⟨_, rfl⟩
            have b74 := iv15_8 hS63.1 ta0 c73
            obtain ⟨v75, c76⟩ : ∃ v, I55 a0 13 = v := ⟨_, rfl⟩
            refine q_callVv hE (M' := mX12_goesOn) (as := []) dX12_readRising_51 lk12_142 inX12_goesOn seX12_goesOn myX12_goesOn (by decide) ⟨by decide, by decide⟩ rfl (kR15 hS63.1 ta0) (Nat.le_of_ble_eq_true rfl) rfl rfl (by decide) (by decide) (k_X12_goesOn hS63.1 ta0) ?_
            rintro cn' K' N' I77 R78 L79 ⟨rfl, rfl, rfl, rfl, g80, p82, p83, p84, w85, -⟩
            have hS86 := hS63.tr g80 (by decide +kernel) (by decide +kernel)
            have c87 : I77 a0 13 = v75 := (g80.cell ta0 (by decide +kernel)).trans c76
            have w88 : RdI a0 I0 I77 := w64.rd w85
            have w89 : RdI a0 I29 I77 := w65.rd w85
            have gd90 := Gd.go gd70 w85.stick
            obtain ⟨v91, c92⟩ : ∃ v, I77 a0 9 = v := ⟨_, rfl⟩
            have b93 := iv15_9 hS86.1 ta0 c92
            rw [c68] at p82
            rw [c92] at p82
            rw [c68] at p83
            rw [c92] at p83
            obtain ⟨v94, c95⟩ : ∃ v, I77 a0 8 = v := ⟨_, rfl⟩
            have b96 := iv15_8 hS86.1 ta0 c95
            rw [c95] at p84
            rw [c73] at p84
            rw [c87] at p84
            rw [c76] at p84
            refine tr_aload_n dX12_readRising_54 hl22 ?_
            refine q_getI dX12_readRising_55 fl12_99 (kR15 hS86.1 ta0) c92 ?_
            refine q_iconst dX12_readRising_58 (by decide) ?_
            intro v97 h98
            refine q_icmp_ne 64 dX12_readRising_59 (by decide) (fun h99 => ?_) (fun h99 => ?_)
            · skip
              have p100 := gd90 (by rw [c92]; exact om_a7d61cc2 h98 h99)
              refine tr_aload_n dX12_readRising_64 hl23 ?_
              refine tr_iload_n dX12_readRising_65 hl24 ?_
              refine tr_iload dX12_readRising_66 hl26 ?_
              refine q_iaddE dX12_readRising_68 (by intro j1 j2 j3 j4; exact om_f20b6e52 hx2.2 hx2.1 g33 g34) ?_
              intro v101 h102
              refine tr_iload dX12_readRising_69 rfl ?_
              refine q_iast dX12_readRising_71 (kR59 hS86.1 ta1) (ti_in (nR59 hS86.1 ta1) (by exact om_6db8f5c8 hx2.2 hx2.1 g33 g34 h102) (by exact om_1e4dc841 hx2.2 hx2.1 hx3.2 hx3.1 g33 g34 b69.2 b69.1 h71 p83 p82 b93.2 b93.1 h98 h99 h102)) hS86 ta1 (by show (0 : Int) ≤ v59.toInt ∧ v59.toInt ≤ (239 : Int); exact om_57506b53 b50.2 b50.1 h52 h54 b66.2 b66.1 p100.2) rfl (by rfl) ?_
              intro I103 hS104 e106 f105
              have c107 : I103 a0 13 = v75 := (f105 _ _ (fun q => by have z := ta0; rw [q.1, ta1] at z; exact absurd z (by decide))).trans c87
              have c108 : I103 a0 9 = v91 := (f105 _ _ (fun q => by have z := ta0; rw [q.1, ta1] at z; exact absurd z (by decide))).trans c92
              have c109 : I103 a0 8 = v94 := (f105 _ _ (fun q => by have z := ta0; rw [q.1, ta1] at z; exact absurd z (by decide))).trans c95
              have w110 : RdI a0 I0 I103 := w88.keep (f105 _ _ (fun q => by have z := ta0; rw [q.1, ta1] at z; exact absurd z (by decide))) (f105 _ _ (fun q => by have z := ta0; rw [q.1, ta1] at z; exact absurd z (by decide))) (f105 _ _ (fun q => by have z := ta0; rw [q.1, ta1] at z; exact absurd z (by decide))) (f105 _ _ (fun q => by have z := ta0; rw [q.1, ta1] at z; exact absurd z (by decide)))
              have w111 : RdI a0 I29 I103 := w89.keep (f105 _ _ (fun q => by have z := ta0; rw [q.1, ta1] at z; exact absurd z (by decide))) (f105 _ _ (fun q => by have z := ta0; rw [q.1, ta1] at z; exact absurd z (by decide))) (f105 _ _ (fun q => by have z := ta0; rw [q.1, ta1] at z; exact absurd z (by decide))) (f105 _ _ (fun q => by have z := ta0; rw [q.1, ta1] at z; exact absurd z (by decide)))
              have gd112 := Gd.keep gd90 (f105 _ _ (fun q => by have z := ta0; rw [q.1, ta1] at z; exact absurd z (by decide)))
              refine q_iincE dX12_readRising_72 hl26 (by decide) (by decide) (by intro j1 j2; exact om_ba2ccb50 hx2.2 hx2.1 g33 g34 h102) ?_
              intro v113 h114
              refine tr_iload dX12_readRising_75 rfl ?_
              refine q_iconst dX12_readRising_77 (by decide) ?_
              intro v115 h116
              refine q_iaddE dX12_readRising_78 (by intro j1 j2 j3 j4; exact om_0804fc38 b50.2 b50.1 h52 h54 b66.2 b66.1 p100.2 h116) ?_
              intro v117 h118
              refine tr_istore dX12_readRising_79 (by decide) (by decide) ?_
              refine tr_aload_n dX12_readRising_81 hl22 ?_
              refine q_bipush dX12_readRising_82 (by decide +kernel) ?_
              intro v119 h120
              refine q_callVi hE (M' := mX12_eatsSign) (as := [_]) dX12_readRising_84 lk12_221 inX12_eatsSign seX12_eatsSign myX12_eatsSign (by decide) ⟨by decide, by decide⟩ rfl (kR15 hS104.1 ta0) (Nat.le_of_ble_eq_true rfl) rfl rfl (by decide) (by decide) (k_X12_eatsSign hS104.1 ta0) ?_
              rintro v125 cn' K' N' I121 R122 L123 ⟨rfl, rfl, rfl, rfl, g124, h126, p127, p128, w129, -⟩
              have hS130 := hS104.tr g124 (by decide +kernel) (by decide +kernel)
              have c131 : I121 a0 13 = v75 := (g124.cell ta0 (by decide +kernel)).trans c107
              have w132 : RdI a0 I0 I121 := w110.ew w129
              have w133 : RdI a0 I29 I121 := w111.ew w129
              have gd134 := Gd.go gd112 w129.stick
              rw [c108] at p127
              obtain ⟨v135, c136⟩ : ∃ v, I121 a0 8 = v := ⟨_, rfl⟩
              have b137 := iv15_8 hS130.1 ta0 c136
              rw [c136] at p128
              rw [c109] at p128
              refine tr_istore dX12_readRising_87 (by decide) (by decide) ?_
              refine tr_goto 9 dX12_readRising_89 (by decide) ?_
              exact ih39 _ v113 v117 v125 I121 L123 hl22 hl23 hl24 hl25 rfl rfl rfl hS130 (Or.inr w132) (by exact om_7512eb38 hx2.2 hx2.1 g33 g34 h102 h114) (by exact om_c2887b49 hx2.2 hx2.1 hx3.2 hx3.1 g33 g34 b69.2 b69.1 h71 p83 p82 b93.2 b93.1 h98 h99 h102 h114 h126.2 h126.1 p127) (by exact om_9b5dbdcf b66.2 b66.1 h116 h118) (by exact om_b1841dfd b50.2 b50.1 h52 h54 b66.2 b66.1 p100.2 h116 h118) (by exact om_ef03f1ae h126.2 h126.1) (by exact om_51ab244e h126.2 h126.1) (by exact om_5e1e7b78 hx2.2 hx2.1 hx3.2 hx3.1 g33 g34 g37 g38 hm39 h41 b44.2 b44.1 h46 h47 b69.2 b69.1 h71 p83 p82 b93.2 b93.1 h98 h99 h102 h114 h126.2 h126.1 p127)
            · skip
              refine q_iconst dX12_readRising_62 (by decide) ?_
              intro v138 h139
              exact tr_iret hZ dX12_readRising_63 rfl (by decide) (by decide) ⟨v138, rfl, rfl, rfl, rfl, rfl, hS86, (by exact om_7d21acc5 h139), (Or.inr w88), trivial⟩
          · skip
            refine tr_aload_n dX12_readRising_45 hl22 ?_
            refine q_iconst dX12_readRising_46 (by decide) ?_
            intro v140 h141
            obtain ⟨v142, c143⟩ : ∃ v, I55 a0 8 = v := ⟨_, rfl⟩
            have b144 := iv15_8 hS63.1 ta0 c143
            refine q_callVv hE (M' := mX12_flaw) (as := [_]) dX12_readRising_47 lk12_145 inX12_flaw seX12_flaw myX12_flaw (by decide) ⟨by decide, by decide⟩ rfl (kR15 hS63.1 ta0) (Nat.le_of_ble_eq_true rfl) rfl rfl (by decide) (by decide) (k_X12_flaw hS63.1 ta0 (by exact om_054a361c h141)) ?_
            rintro cn' K' N' I145 R146 L147 ⟨rfl, rfl, rfl, rfl, rfl, g148, p150, p151, w152, -⟩
            have hS153 := hS63.tr g148 (by decide +kernel) (by decide +kernel)
            have c154 : I145 a0 8 = v142 := (g148.cell ta0 (by decide +kernel)).trans c143
            have w155 : RdI a0 I0 I145 := w64.rd w152
            have w156 : RdI a0 I29 I145 := w65.rd w152
            have gd157 := Gd.go gd70 w152.stick
            obtain ⟨v158, c159⟩ : ∃ v, I145 a0 9 = v := ⟨_, rfl⟩
            have b160 := iv15_9 hS153.1 ta0 c159
            rw [c159] at p150
            rw [c154] at p151
            rw [c143] at p151
            refine tr_aload_n dX12_readRising_50 hl22 ?_
            obtain ⟨v161, c162⟩ : ∃ v, I145 a0 13 = v := ⟨_, rfl⟩
            refine q_callVv hE (M' := mX12_goesOn) (as := []) dX12_readRising_51 lk12_142 inX12_goesOn seX12_goesOn myX12_goesOn (by decide) ⟨by decide, by decide⟩ rfl (kR15 hS153.1 ta0) (Nat.le_of_ble_eq_true rfl) rfl rfl (by decide) (by decide) (k_X12_goesOn hS153.1 ta0) ?_
            rintro cn' K' N' I163 R164 L165 ⟨rfl, rfl, rfl, rfl, g166, p168, p169, p170, w171, -⟩
            have hS172 := hS153.tr g166 (by decide +kernel) (by decide +kernel)
            have c173 : I163 a0 13 = v161 := (g166.cell ta0 (by decide +kernel)).trans c162
            have w174 : RdI a0 I0 I163 := w155.rd w171
            have w175 : RdI a0 I29 I163 := w156.rd w171
            have gd176 := Gd.go gd157 w171.stick
            obtain ⟨v177, c178⟩ : ∃ v, I163 a0 9 = v := ⟨_, rfl⟩
            have b179 := iv15_9 hS172.1 ta0 c178
            rw [c159] at p168
            rw [c178] at p168
            rw [c159] at p169
            rw [c178] at p169
            obtain ⟨v180, c181⟩ : ∃ v, I163 a0 8 = v := ⟨_, rfl⟩
            have b182 := iv15_8 hS172.1 ta0 c181
            rw [c181] at p170
            rw [c154] at p170
            rw [c173] at p170
            rw [c162] at p170
            refine tr_aload_n dX12_readRising_54 hl22 ?_
            refine q_getI dX12_readRising_55 fl12_99 (kR15 hS172.1 ta0) c178 ?_
            refine q_iconst dX12_readRising_58 (by decide) ?_
            intro v183 h184
            refine q_icmp_ne 64 dX12_readRising_59 (by decide) (fun h185 => ?_) (fun h185 => ?_)
            · skip
              exfalso; exact om_cfc9cb89 p150 p169 p168 b179.2 b179.1 h184 h185
            · skip
              refine q_iconst dX12_readRising_62 (by decide) ?_
              intro v186 h187
              exact tr_iret hZ dX12_readRising_63 rfl (by decide) (by decide) ⟨v186, rfl, rfl, rfl, rfl, rfl, hS172, (by exact om_7d21acc5 h187), (Or.inr w174), trivial⟩
  exact lp39 _ _ v13 v15 v17 I0 L0 rfl rfl rfl rfl rfl rfl rfl hS0 (EwI.rf a0 I0) (by exact om_d99fa9e4 h14) (by exact om_91231c9d h14) (by exact om_d99fa9e4 h16) (by exact om_4c96df26 h16) (by exact om_f9079521 h18) (by exact om_e6632817 h18) (Nat.lt_succ_self _)
def wi_X12_needsSign : List Nat := [968, 969, 970, 971, 972, 973, 974]
def wr_X12_needsSign : List Nat := []
set_option maxHeartbeats 4000000 in
theorem k_X12_needsSign {l : Launch} {T : Nat → Nat} {cn : Nat} {K N : Nat → Nat} {I0 : cz_I} {R0 : cz_R} {L0 : cz_L} {d : Int} (hW0 : Wf T cn K N I0 R0 d) {a0 : Nat} (ta0 : T a0 = 15) {x1 : Int32} : ConE l mX12_needsSign [.ref a0, .int x1] cn K N I0 R0 L0 (ca_v (fun cn' K' N' I' R' L' => cn = cn' ∧ K = K' ∧ N = N' ∧ R0 = R' ∧ St T cn K N d wi_X12_needsSign wr_X12_needsSign I0 R0 I' R0 ∧ RdI a0 I0 I' ∧ True)) := by
  refine ConE.of (by decide +kernel) rfl (Nat.le_of_ble_eq_true rfl) rfl (fun X hX hZ hE => ?_)
  subst hX
  have hS0 : St T cn K N d wi_X12_needsSign wr_X12_needsSign I0 R0 I0 R0 := St.rf0 hW0
  refine tr_aload_n dX12_needsSign_0 rfl ?_
  obtain ⟨v1, c2⟩ : ∃ v, I0 a0 9 = v := ⟨_, rfl⟩
  have b3 := iv15_9 hS0.1 ta0 c2
  refine q_getI dX12_needsSign_1 fl12_99 (kR15 hS0.1 ta0) c2 ?_
  refine q_iconst dX12_needsSign_4 (by decide) ?_
  intro v4 h5
  refine q_icmp_ne 16 dX12_needsSign_5 (by decide) (fun h6 => ?_) (fun h6 => ?_)
  · skip
    refine tr_aload_n dX12_needsSign_16 rfl ?_
    refine q_iconst dX12_needsSign_17 (by decide) ?_
    intro v7 h8
    obtain ⟨v9, c10⟩ : ∃ v, I0 a0 8 = v := ⟨_, rfl⟩
    have b11 := iv15_8 hS0.1 ta0 c10
    refine q_callVv hE (M' := mX12_flaw) (as := [_]) dX12_needsSign_18 lk12_145 inX12_flaw seX12_flaw myX12_flaw (by decide) ⟨by decide, by decide⟩ rfl (kR15 hS0.1 ta0) (Nat.le_of_ble_eq_true rfl) rfl rfl (by decide) (by decide) (k_X12_flaw hS0.1 ta0 (by exact om_95922198 h8)) ?_
    rintro cn' K' N' I12 R13 L14 ⟨rfl, rfl, rfl, rfl, rfl, g15, p17, p18, w19, -⟩
    have hS20 := hS0.tr g15 (by decide +kernel) (by decide +kernel)
    have c21 : I12 a0 8 = v9 := (g15.cell ta0 (by decide +kernel)).trans c10
    have w22 : RdI a0 I0 I12 := (EwI.rf a0 I0).rd w19
    obtain ⟨v23, c24⟩ : ∃ v, I12 a0 9 = v := ⟨_, rfl⟩
    have b25 := iv15_9 hS20.1 ta0 c24
    rw [c24] at p17
    rw [c21] at p18
    rw [c10] at p18
    refine tr_aload_n dX12_needsSign_21 rfl ?_
    obtain ⟨v26, c27⟩ : ∃ v, I12 a0 13 = v := ⟨_, rfl⟩
    refine q_callVv hE (M' := mX12_goesOn) (as := []) dX12_needsSign_22 lk12_142 inX12_goesOn seX12_goesOn myX12_goesOn (by decide) ⟨by decide, by decide⟩ rfl (kR15 hS20.1 ta0) (Nat.le_of_ble_eq_true rfl) rfl rfl (by decide) (by decide) (k_X12_goesOn hS20.1 ta0) ?_
    rintro cn' K' N' I28 R29 L30 ⟨rfl, rfl, rfl, rfl, g31, p33, p34, p35, w36, -⟩
    have hS37 := hS20.tr g31 (by decide +kernel) (by decide +kernel)
    have c38 : I28 a0 13 = v26 := (g31.cell ta0 (by decide +kernel)).trans c27
    have w39 : RdI a0 I0 I28 := w22.rd w36
    obtain ⟨v40, c41⟩ : ∃ v, I28 a0 9 = v := ⟨_, rfl⟩
    have b42 := iv15_9 hS37.1 ta0 c41
    rw [c24] at p33
    rw [c41] at p33
    rw [c24] at p34
    rw [c41] at p34
    obtain ⟨v43, c44⟩ : ∃ v, I28 a0 8 = v := ⟨_, rfl⟩
    have b45 := iv15_8 hS37.1 ta0 c44
    rw [c44] at p35
    rw [c21] at p35
    rw [c38] at p35
    rw [c27] at p35
    exact tr_vret hZ dX12_needsSign_25 rfl (by decide) (by decide) ⟨rfl, rfl, rfl, rfl, rfl, hS37, w39, trivial⟩
  · skip
    refine tr_aload_n dX12_needsSign_8 rfl ?_
    obtain ⟨v46, c47⟩ : ∃ v, I0 a0 11 = v := ⟨_, rfl⟩
    refine q_getI dX12_needsSign_9 fl12_111 (kR15 hS0.1 ta0) c47 ?_
    refine tr_iload_n dX12_needsSign_12 rfl ?_
    refine q_icmp_eq 21 dX12_needsSign_13 (by decide) (fun h48 => ?_) (fun h48 => ?_)
    · skip
      refine tr_aload_n dX12_needsSign_21 rfl ?_
      obtain ⟨v49, c50⟩ : ∃ v, I0 a0 8 = v := ⟨_, rfl⟩
      have b51 := iv15_8 hS0.1 ta0 c50
      obtain ⟨v52, c53⟩ : ∃ v, I0 a0 13 = v := ⟨_, rfl⟩
      refine q_callVv hE (M' := mX12_goesOn) (as := []) dX12_needsSign_22 lk12_142 inX12_goesOn seX12_goesOn myX12_goesOn (by decide) ⟨by decide, by decide⟩ rfl (kR15 hS0.1 ta0) (Nat.le_of_ble_eq_true rfl) rfl rfl (by decide) (by decide) (k_X12_goesOn hS0.1 ta0) ?_
      rintro cn' K' N' I54 R55 L56 ⟨rfl, rfl, rfl, rfl, g57, p59, p60, p61, w62, -⟩
      have hS63 := hS0.tr g57 (by decide +kernel) (by decide +kernel)
      have c64 : I54 a0 13 = v52 := (g57.cell ta0 (by decide +kernel)).trans c53
      have w65 : RdI a0 I0 I54 := (EwI.rf a0 I0).rd w62
      obtain ⟨v66, c67⟩ : ∃ v, I54 a0 9 = v := ⟨_, rfl⟩
      have b68 := iv15_9 hS63.1 ta0 c67
      rw [c2] at p59
      rw [c67] at p59
      rw [c2] at p60
      rw [c67] at p60
      obtain ⟨v69, c70⟩ : ∃ v, I54 a0 8 = v := ⟨_, rfl⟩
      have b71 := iv15_8 hS63.1 ta0 c70
      rw [c70] at p61
      rw [c50] at p61
      rw [c64] at p61
      rw [c53] at p61
      exact tr_vret hZ dX12_needsSign_25 rfl (by decide) (by decide) ⟨rfl, rfl, rfl, rfl, rfl, hS63, w65, trivial⟩
    · skip
      refine tr_aload_n dX12_needsSign_16 rfl ?_
      refine q_iconst dX12_needsSign_17 (by decide) ?_
      intro v72 h73
      obtain ⟨v74, c75⟩ : ∃ v, I0 a0 8 = v := ⟨_, rfl⟩
      have b76 := iv15_8 hS0.1 ta0 c75
      refine q_callVv hE (M' := mX12_flaw) (as := [_]) dX12_needsSign_18 lk12_145 inX12_flaw seX12_flaw myX12_flaw (by decide) ⟨by decide, by decide⟩ rfl (kR15 hS0.1 ta0) (Nat.le_of_ble_eq_true rfl) rfl rfl (by decide) (by decide) (k_X12_flaw hS0.1 ta0 (by exact om_95922198 h73)) ?_
      rintro cn' K' N' I77 R78 L79 ⟨rfl, rfl, rfl, rfl, rfl, g80, p82, p83, w84, -⟩
      have hS85 := hS0.tr g80 (by decide +kernel) (by decide +kernel)
      have c86 : I77 a0 11 = v46 := (g80.cell ta0 (by decide +kernel)).trans c47
      have c87 : I77 a0 8 = v74 := (g80.cell ta0 (by decide +kernel)).trans c75
      have w88 : RdI a0 I0 I77 := (EwI.rf a0 I0).rd w84
      obtain ⟨v89, c90⟩ : ∃ v, I77 a0 9 = v := ⟨_, rfl⟩
      have b91 := iv15_9 hS85.1 ta0 c90
      rw [c90] at p82
      rw [c87] at p83
      rw [c75] at p83
      refine tr_aload_n dX12_needsSign_21 rfl ?_
      obtain ⟨v92, c93⟩ : ∃ v, I77 a0 13 = v := ⟨_, rfl⟩
      refine q_callVv hE (M' := mX12_goesOn) (as := []) dX12_needsSign_22 lk12_142 inX12_goesOn seX12_goesOn myX12_goesOn (by decide) ⟨by decide, by decide⟩ rfl (kR15 hS85.1 ta0) (Nat.le_of_ble_eq_true rfl) rfl rfl (by decide) (by decide) (k_X12_goesOn hS85.1 ta0) ?_
      rintro cn' K' N' I94 R95 L96 ⟨rfl, rfl, rfl, rfl, g97, p99, p100, p101, w102, -⟩
      have hS103 := hS85.tr g97 (by decide +kernel) (by decide +kernel)
      have c104 : I94 a0 13 = v92 := (g97.cell ta0 (by decide +kernel)).trans c93
      have w105 : RdI a0 I0 I94 := w88.rd w102
      obtain ⟨v106, c107⟩ : ∃ v, I94 a0 9 = v := ⟨_, rfl⟩
      have b108 := iv15_9 hS103.1 ta0 c107
      rw [c90] at p99
      rw [c107] at p99
      rw [c90] at p100
      rw [c107] at p100
      obtain ⟨v109, c110⟩ : ∃ v, I94 a0 8 = v := ⟨_, rfl⟩
      have b111 := iv15_8 hS103.1 ta0 c110
      rw [c110] at p101
      rw [c87] at p101
      rw [c104] at p101
      rw [c93] at p101
      exact tr_vret hZ dX12_needsSign_25 rfl (by decide) (by decide) ⟨rfl, rfl, rfl, rfl, rfl, hS103, w105, trivial⟩
