def wi_X12_readRising_1 : List Nat := [968, 969, 970, 971, 972, 973, 974, 3839]
def wr_X12_readRising_1 : List Nat := []
set_option maxHeartbeats 4000000 in
theorem k_X12_readRising_1 {l : Launch} {T : Nat → Nat} {cn : Nat} {K N : Nat → Nat} {I0 : cz_I} {R0 : cz_R} {L0 : cz_L} {d : Int} (hW0 : Wf T cn K N I0 R0 d) {a0 : Nat} (ta0 : T a0 = 15) {a1 : Nat} (ta1 : T a1 = 59) {x2 : Int32} (hx2 : 0 ≤ x2.toInt ∧ x2.toInt ≤ 0) {x3 : Int32} (hx3 : 8 ≤ x3.toInt ∧ x3.toInt ≤ 8) (nn4 : ∃ b, R0 a0 4 = some b) : ConE l mX12_readRising [.ref a0, .ref a1, .int x2, .int x3] cn K N I0 R0 L0 (ca_i (fun v cn' K' N' I' R' L' => cn = cn' ∧ K = K' ∧ N = N' ∧ R0 = R' ∧ St T cn K N d wi_X12_readRising_1 wr_X12_readRising_1 I0 R0 I' R0 ∧ (0 ≤ v.toInt ∧ v.toInt ≤ 8) ∧ EwI a0 I0 I' ∧ True)) := by
  refine ConE.of (by decide +kernel) rfl (Nat.le_of_ble_eq_true rfl) rfl (fun X hX hZ hE => ?_)
  subst hX
  have hS0 : St T cn K N d wi_X12_readRising_1 wr_X12_readRising_1 I0 R0 I0 R0 := St.rf0 hW0
  obtain ⟨a11, d12⟩ := nn4
  have ta11 : T a11 = 14 := hW0.rsN ta0 rfl d12
  refine q_iconst dX12_readRising_0 (by decide) ?_
  intro v13 h14
  refine tr_istore dX12_readRising_1 (by decide) (by decide) ?_
  refine q_iconst dX12_readRising_3 (by decide) ?_
  intro v15 h16
  refine tr_istore dX12_readRising_4 (by decide) (by decide) ?_
  refine q_iconst dX12_readRising_6 (by decide) ?_
  intro v17 h18
  refine tr_istore dX12_readRising_7 (by decide) (by decide) ?_
  have lp39 : ∀ (fu : Nat) (ls : Nat → Option Value) (v19 : Int32) (v20 : Int32) (v21 : Int32) (I29 : cz_I) (L30 : cz_L), ls 0 = some (.ref a0) → ls 1 = some (.ref a1) → ls 2 = some (.int x2) → ls 3 = some (.int x3) → ls 4 = some (.int v19) → ls 5 = some (.int v20) → ls 6 = some (.int v21) → St T cn K N d wi_X12_readRising_1 wr_X12_readRising_1 I0 R0 I29 R0 → EwI a0 I0 I29 → 0 ≤ v19.toInt → v19.toInt ≤ 8 → 0 ≤ v20.toInt → v20.toInt ≤ 240 → 0 ≤ v21.toInt → v21.toInt ≤ 1 → (-v19.toInt + 9).toNat < fu → Tr X mX12_readRising 9 ls [] cn K N I29 R0 L30 0 0 := by
    intro fu
    induction fu with
    | zero => intros; rename_i hz; exact absurd hz (Nat.not_lt_zero _)
    | succ fu ih39 =>
      intro ls v19 v20 v21 I29 L30 hl22 hl23 hl24 hl25 hl26 hl27 hl28 hS31 w32 g33 g34 g35 g36 g37 g38 hm39
      refine tr_iload dX12_readRising_9 hl28 ?_
      refine q_if_eq 92 dX12_readRising_11 (by decide) (fun h41 => ?_) (fun h41 => ?_)
      · skip
        refine tr_iload dX12_readRising_92 hl26 ?_
        exact tr_iret hZ dX12_readRising_94 rfl (by decide) (by decide) ⟨v19, rfl, rfl, rfl, rfl, rfl, hS31, (by omega), w32, trivial⟩
      · skip
        refine tr_aload_n dX12_readRising_14 hl22 ?_
        obtain ⟨v42, c43⟩ : ∃ v, I29 a0 9 = v := ⟨_, rfl⟩
        have b44 := iv15_9 hS31.1 ta0 c43
        refine q_getI dX12_readRising_15 fl12_99 (kR15 hS31.1 ta0) c43 ?_
        refine q_iconst dX12_readRising_18 (by decide) ?_
        intro v45 h46
        refine q_icmp_eq 92 dX12_readRising_19 (by decide) (fun h47 => ?_) (fun h47 => ?_)
        · skip
          refine tr_iload dX12_readRising_92 hl26 ?_
          exact tr_iret hZ dX12_readRising_94 rfl (by decide) (by decide) ⟨v19, rfl, rfl, rfl, rfl, rfl, hS31, (by omega), w32, trivial⟩
        · skip
          refine tr_aload_n dX12_readRising_22 hl22 ?_
          refine tr_iload dX12_readRising_23 hl27 ?_
          refine tr_aload_n dX12_readRising_25 hl22 ?_
          refine tr_getR dX12_readRising_26 fl12_188 (kR15 hS31.1 ta0) d12 ?_
          obtain ⟨v48, c49⟩ : ∃ v, I0 a11 0 = v := ⟨_, rfl⟩
          have b50 := iv14_0 hW0 ta11 c49
          refine q_getI dX12_readRising_29 fl12_192 (kR14 hS31.1 ta11) ((hS31.cell ta11 (by decide +kernel)).trans c49) ?_
          refine q_iconst dX12_readRising_32 (by decide) ?_
          intro v51 h52
          refine q_isubE dX12_readRising_33 (by intros; omega) ?_
          intro v53 h54
          refine q_callVi hE (M' := mX12_bounded) (as := [_, _]) dX12_readRising_34 lk12_153 inX12_bounded seX12_bounded myX12_bounded (by decide) ⟨by decide, by decide⟩ rfl (kR15 hS31.1 ta0) (Nat.le_of_ble_eq_true rfl) rfl rfl (by decide) (by decide) (k_X12_bounded hS31.1 ta0) ?_
          rintro v59 cn' K' N' I55 R56 L57 ⟨rfl, rfl, rfl, rfl, rfl, g58, p60, p61, w62, -⟩
          have hS63 := hS31.tr g58 (by decide +kernel) (by decide +kernel)
          have w64 : EwI a0 I0 I55 := w32.ew w62
          have w65 : EwI a0 I29 I55 := (EwI.rf a0 I29).ew w62
          have b66 : 0 ≤ v59.toInt ∧ v59.toInt ≤ 240 := by omega
          clear p60
          obtain ⟨v67, c68⟩ : ∃ v, I55 a0 9 = v := ⟨_, rfl⟩
          have b69 := iv15_9 hS63.1 ta0 c68
          have gd70 : Gd (I55 a0 9) ((v20.toInt ≤ v59.toInt ∧ v59.toInt ≤ v53.toInt)) := p61
          clear p61
          refine tr_istore dX12_readRising_37 (by decide) (by decide) ?_
          refine tr_iload dX12_readRising_39 hl26 ?_
          refine tr_iload_n dX12_readRising_41 hl25 ?_
          refine q_icmp_ne 50 dX12_readRising_42 (by decide) (fun h71 => ?_) (fun h71 => ?_)
          · skip
            refine tr_aload_n dX12_readRising_50 hl22 ?_
            obtain ⟨v72, c73⟩ : ∃ v, I55 a0 8 = v := ⟨_, rfl⟩
            have b74 := iv15_8 hS63.1 ta0 c73
            obtain ⟨v75, c76⟩ : ∃ v, I55 a0 13 = v := ⟨_, rfl⟩
            refine q_callVv hE (M' := mX12_goesOn) (as := []) dX12_readRising_51 lk12_142 inX12_goesOn seX12_goesOn myX12_goesOn (by decide) ⟨by decide, by decide⟩ rfl (kR15 hS63.1 ta0) (Nat.le_of_ble_eq_true rfl) rfl rfl (by decide) (by decide) (k_X12_goesOn hS63.1 ta0) ?_
            rintro cn' K' N' I77 R78 L79 ⟨rfl, rfl, rfl, rfl, g80, p82, p83, p84, w85, -⟩
            have hS86 := hS63.tr g80 (by decide +kernel) (by decide +kernel)
            have c87 : I77 a0 13 = v75 := (g80.cell ta0 (by decide +kernel)).trans c76
            have w88 : RdI a0 I0 I77 := w64.rd w85
            have w89 : RdI a0 I29 I77 := w65.rd w85
            have gd90 := Gd.go gd70 w85.stick
            obtain ⟨v91, c92⟩ : ∃ v, I77 a0 9 = v := ⟨_, rfl⟩
            have b93 := iv15_9 hS86.1 ta0 c92
            rw [c68] at p82
            rw [c92] at p82
            rw [c68] at p83
            rw [c92] at p83
            obtain ⟨v94, c95⟩ : ∃ v, I77 a0 8 = v := ⟨_, rfl⟩
            have b96 := iv15_8 hS86.1 ta0 c95
            rw [c95] at p84
            rw [c73] at p84
            rw [c87] at p84
            rw [c76] at p84
            refine tr_aload_n dX12_readRising_54 hl22 ?_
            refine q_getI dX12_readRising_55 fl12_99 (kR15 hS86.1 ta0) c92 ?_
            refine q_iconst dX12_readRising_58 (by decide) ?_
            intro v97 h98
            refine q_icmp_ne 64 dX12_readRising_59 (by decide) (fun h99 => ?_) (fun h99 => ?_)
            · skip
              have p100 := gd90 (by rw [c92]; omega)
              refine tr_aload_n dX12_readRising_64 hl23 ?_
              refine tr_iload_n dX12_readRising_65 hl24 ?_
              refine tr_iload dX12_readRising_66 hl26 ?_
              refine q_iaddE dX12_readRising_68 (by intros; omega) ?_
              intro v101 h102
              refine tr_iload dX12_readRising_69 rfl ?_
              refine q_iast dX12_readRising_71 (kR59 hS86.1 ta1) (ti_in (nR59 hS86.1 ta1) (by omega) (by omega)) hS86 ta1 (by show (0 : Int) ≤ v59.toInt ∧ v59.toInt ≤ (239 : Int); omega) rfl (by rfl) ?_
              intro I103 hS104 e106 f105
              have c107 : I103 a0 13 = v75 := (f105 _ _ (fun q => by have z := ta0; rw [q.1, ta1] at z; exact absurd z (by decide))).trans c87
              have c108 : I103 a0 9 = v91 := (f105 _ _ (fun q => by have z := ta0; rw [q.1, ta1] at z; exact absurd z (by decide))).trans c92
              have c109 : I103 a0 8 = v94 := (f105 _ _ (fun q => by have z := ta0; rw [q.1, ta1] at z; exact absurd z (by decide))).trans c95
              have w110 : RdI a0 I0 I103 := w88.keep (f105 _ _ (fun q => by have z := ta0; rw [q.1, ta1] at z; exact absurd z (by decide))) (f105 _ _ (fun q => by have z := ta0; rw [q.1, ta1] at z; exact absurd z (by decide))) (f105 _ _ (fun q => by have z := ta0; rw [q.1, ta1] at z; exact absurd z (by decide))) (f105 _ _ (fun q => by have z := ta0; rw [q.1, ta1] at z; exact absurd z (by decide)))
              have w111 : RdI a0 I29 I103 := w89.keep (f105 _ _ (fun q => by have z := ta0; rw [q.1, ta1] at z; exact absurd z (by decide))) (f105 _ _ (fun q => by have z := ta0; rw [q.1, ta1] at z; exact absurd z (by decide))) (f105 _ _ (fun q => by have z := ta0; rw [q.1, ta1] at z; exact absurd z (by decide))) (f105 _ _ (fun q => by have z := ta0; rw [q.1, ta1] at z; exact absurd z (by decide)))
              have gd112 := Gd.keep gd90 (f105 _ _ (fun q => by have z := ta0; rw [q.1, ta1] at z; exact absurd z (by decide)))
              refine q_iincE dX12_readRising_72 hl26 (by decide) (by decide) (by intros; omega) ?_
              intro v113 h114
              refine tr_iload dX12_readRising_75 rfl ?_
              refine q_iconst dX12_readRising_77 (by decide) ?_
              intro v115 h116
              refine q_iaddE dX12_readRising_78 (by intros; omega) ?_
              intro v117 h118
              refine tr_istore dX12_readRising_79 (by decide) (by decide) ?_
              refine tr_aload_n dX12_readRising_81 hl22 ?_
              refine q_bipush dX12_readRising_82 (by decide +kernel) ?_
              intro v119 h120
              refine q_callVi hE (M' := mX12_eatsSign) (as := [_]) dX12_readRising_84 lk12_221 inX12_eatsSign seX12_eatsSign myX12_eatsSign (by decide) ⟨by decide, by decide⟩ rfl (kR15 hS104.1 ta0) (Nat.le_of_ble_eq_true rfl) rfl rfl (by decide) (by decide) (k_X12_eatsSign hS104.1 ta0) ?_
              rintro v125 cn' K' N' I121 R122 L123 ⟨rfl, rfl, rfl, rfl, g124, h126, p127, p128, w129, -⟩
              have hS130 := hS104.tr g124 (by decide +kernel) (by decide +kernel)
              have c131 : I121 a0 13 = v75 := (g124.cell ta0 (by decide +kernel)).trans c107
              have w132 : RdI a0 I0 I121 := w110.ew w129
              have w133 : RdI a0 I29 I121 := w111.ew w129
              have gd134 := Gd.go gd112 w129.stick
              rw [c108] at p127
              obtain ⟨v135, c136⟩ : ∃ v, I121 a0 8 = v := ⟨_, rfl⟩
              have b137 := iv15_8 hS130.1 ta0 c136
              rw [c136] at p128
              rw [c109] at p128
              refine tr_istore dX12_readRising_87 (by decide) (by decide) ?_
              refine tr_goto 9 dX12_readRising_89 (by decide) ?_
              exact ih39 _ v113 v117 v125 I121 L123 hl22 hl23 hl24 hl25 rfl rfl rfl hS130 (Or.inr w132) (by omega) (by omega) (by omega) (by omega) (by omega) (by omega) (by omega)
            · skip
              refine q_iconst dX12_readRising_62 (by decide) ?_
              intro v138 h139
              exact tr_iret hZ dX12_readRising_63 rfl (by decide) (by decide) ⟨v138, rfl, rfl, rfl, rfl, rfl, hS86, (by omega), (Or.inr w88), trivial⟩
          · skip
            refine tr_aload_n dX12_readRising_45 hl22 ?_
            refine q_iconst dX12_readRising_46 (by decide) ?_
            intro v140 h141
            obtain ⟨v142, c143⟩ : ∃ v, I55 a0 8 = v := ⟨_, rfl⟩
            have b144 := iv15_8 hS63.1 ta0 c143
            refine q_callVv hE (M' := mX12_flaw) (as := [_]) dX12_readRising_47 lk12_145 inX12_flaw seX12_flaw myX12_flaw (by decide) ⟨by decide, by decide⟩ rfl (kR15 hS63.1 ta0) (Nat.le_of_ble_eq_true rfl) rfl rfl (by decide) (by decide) (k_X12_flaw hS63.1 ta0 (by omega)) ?_
            rintro cn' K' N' I145 R146 L147 ⟨rfl, rfl, rfl, rfl, rfl, g148, p150, p151, w152, -⟩
            have hS153 := hS63.tr g148 (by decide +kernel) (by decide +kernel)
            have c154 : I145 a0 8 = v142 := (g148.cell ta0 (by decide +kernel)).trans c143
            have w155 : RdI a0 I0 I145 := w64.rd w152
            have w156 : RdI a0 I29 I145 := w65.rd w152
            have gd157 := Gd.go gd70 w152.stick
            obtain ⟨v158, c159⟩ : ∃ v, I145 a0 9 = v := ⟨_, rfl⟩
            have b160 := iv15_9 hS153.1 ta0 c159
            rw [c159] at p150
            rw [c154] at p151
            rw [c143] at p151
            refine tr_aload_n dX12_readRising_50 hl22 ?_
            obtain ⟨v161, c162⟩ : ∃ v, I145 a0 13 = v := ⟨_, rfl⟩
            refine q_callVv hE (M' := mX12_goesOn) (as := []) dX12_readRising_51 lk12_142 inX12_goesOn seX12_goesOn myX12_goesOn (by decide) ⟨by decide, by decide⟩ rfl (kR15 hS153.1 ta0) (Nat.le_of_ble_eq_true rfl) rfl rfl (by decide) (by decide) (k_X12_goesOn hS153.1 ta0) ?_
            rintro cn' K' N' I163 R164 L165 ⟨rfl, rfl, rfl, rfl, g166, p168, p169, p170, w171, -⟩
            have hS172 := hS153.tr g166 (by decide +kernel) (by decide +kernel)
            have c173 : I163 a0 13 = v161 := (g166.cell ta0 (by decide +kernel)).trans c162
            have w174 : RdI a0 I0 I163 := w155.rd w171
            have w175 : RdI a0 I29 I163 := w156.rd w171
            have gd176 := Gd.go gd157 w171.stick
            obtain ⟨v177, c178⟩ : ∃ v, I163 a0 9 = v := ⟨_, rfl⟩
            have b179 := iv15_9 hS172.1 ta0 c178
            rw [c159] at p168
            rw [c178] at p168
            rw [c159] at p169
            rw [c178] at p169
            obtain ⟨v180, c181⟩ : ∃ v, I163 a0 8 = v := ⟨_, rfl⟩
            have b182 := iv15_8 hS172.1 ta0 c181
            rw [c181] at p170
            rw [c154] at p170
            rw [c173] at p170
            rw [c162] at p170
            refine tr_aload_n dX12_readRising_54 hl22 ?_
            refine q_getI dX12_readRising_55 fl12_99 (kR15 hS172.1 ta0) c178 ?_
            refine q_iconst dX12_readRising_58 (by decide) ?_
            intro v183 h184
            refine q_icmp_ne 64 dX12_readRising_59 (by decide) (fun h185 => ?_) (fun h185 => ?_)
            · skip
              exfalso; omega
            · skip
              refine q_iconst dX12_readRising_62 (by decide) ?_
              intro v186 h187
              exact tr_iret hZ dX12_readRising_63 rfl (by decide) (by decide) ⟨v186, rfl, rfl, rfl, rfl, rfl, hS172, (by omega), (Or.inr w174), trivial⟩
  exact lp39 _ _ v13 v15 v17 I0 L0 rfl rfl rfl rfl rfl rfl rfl hS0 (EwI.rf a0 I0) (by omega) (by omega) (by omega) (by omega) (by omega) (by omega) (Nat.lt_succ_self _)
def wi_X12_readAlmanac : List Nat := [904, 905, 968, 969, 970, 971, 972, 973, 974, 3839]
def wr_X12_readAlmanac : List Nat := []
set_option maxHeartbeats 4000000 in
theorem k_X12_readAlmanac {l : Launch} {T : Nat → Nat} {cn : Nat} {K N : Nat → Nat} {I0 : cz_I} {R0 : cz_R} {L0 : cz_L} {d : Int} (hW0 : Wf T cn K N I0 R0 d) {a0 : Nat} (ta0 : T a0 = 15) (nn4 : ∃ b, R0 a0 4 = some b) : ConE l mX12_readAlmanac [.ref a0] cn K N I0 R0 L0 (ca_v (fun cn' K' N' I' R' L' => cn = cn' ∧ K = K' ∧ N = N' ∧ R0 = R' ∧ St T cn K N d wi_X12_readAlmanac wr_X12_readAlmanac I0 R0 I' R0 ∧ RdI a0 I0 I' ∧ True)) := by
  refine ConE.of (by decide +kernel) rfl (Nat.le_of_ble_eq_true rfl) rfl (fun X hX hZ hE => ?_)
  subst hX
  have hS0 : St T cn K N d wi_X12_readAlmanac wr_X12_readAlmanac I0 R0 I0 R0 := St.rf0 hW0
  obtain ⟨a1, d2⟩ := nn4
  have ta1 : T a1 = 14 := hW0.rsN ta0 rfl d2
  refine tr_aload_n dX12_readAlmanac_0 rfl ?_
  refine tr_getR dX12_readAlmanac_1 fl12_188 (kR15 hS0.1 ta0) d2 ?_
  obtain ⟨v3, c4⟩ : ∃ v, I0 a1 9 = v := ⟨_, rfl⟩
  have b5 := iv14_9 hS0.1 ta1 c4
  refine q_getZ dX12_readAlmanac_4 fl12_302 (kR14 hS0.1 ta1) c4 ?_
  refine q_if_eq 15 dX12_readAlmanac_7 (by decide) (fun h6 => ?_) (fun h6 => ?_)
  · skip
    refine tr_aload_n dX12_readAlmanac_15 rfl ?_
    refine q_iconst dX12_readAlmanac_16 (by decide) ?_
    intro v7 h8
    refine q_iconst dX12_readAlmanac_17 (by decide) ?_
    intro v9 h10
    refine q_callVv hE (M' := mX12_begins) (as := [_, _]) dX12_readAlmanac_18 lk12_268 inX12_begins seX12_begins myX12_begins (by decide) ⟨by decide, by decide⟩ rfl (kR15 hS0.1 ta0) (Nat.le_of_ble_eq_true rfl) rfl rfl (by decide) (by decide) (k_X12_begins hS0.1 ta0 ⟨_, d2⟩) ?_
    rintro cn' K' N' I11 R12 L13 ⟨rfl, rfl, rfl, rfl, g14, p16, w17, -⟩
    have hS18 := hS0.tr g14 (by decide +kernel) (by decide +kernel)
    have c19 : I11 a1 9 = v3 := (g14.cell ta1 (by decide +kernel)).trans c4
    have w20 : RdI a0 I0 I11 := (EwI.rf a0 I0).rd w17
    obtain ⟨v21, c22⟩ : ∃ v, I11 a0 9 = v := ⟨_, rfl⟩
    have b23 := iv15_9 hS18.1 ta0 c22
    have gd24 : Gd (I11 a0 9) (v7.toInt ≠ v9.toInt) := p16
    clear p16
    refine tr_aload_n dX12_readAlmanac_21 rfl ?_
    refine tr_aload_n dX12_readAlmanac_22 rfl ?_
    refine tr_getR dX12_readAlmanac_23 fl12_188 (kR15 hS18.1 ta0) d2 ?_
    obtain ⟨a25, d26, ta25⟩ := rf14_16 hW0 ta1
    refine tr_getR dX12_readAlmanac_26 fl12_306 (kR14 hS18.1 ta1) d26 ?_
    refine q_iconst dX12_readAlmanac_29 (by decide) ?_
    intro v27 h28
    refine q_bipush dX12_readAlmanac_30 (by decide +kernel) ?_
    intro v29 h30
    refine q_callVi hE (M' := mX12_readRising) (as := [_, _, _]) dX12_readAlmanac_32 lk12_308 inX12_readRising seX12_readRising myX12_readRising (by decide) ⟨by decide, by decide⟩ rfl (kR15 hS18.1 ta0) (Nat.le_of_ble_eq_true rfl) rfl rfl (by decide) (by decide) (k_X12_readRising_1 hS18.1 ta0 ta25 (by omega) (by omega) ⟨_, d2⟩) ?_
    rintro v35 cn' K' N' I31 R32 L33 ⟨rfl, rfl, rfl, rfl, g34, h36, w37, -⟩
    have hS38 := hS18.tr g34 (by decide +kernel) (by decide +kernel)
    have c39 : I31 a1 9 = v3 := (g34.cell ta1 (by decide +kernel)).trans c19
    have w40 : RdI a0 I0 I31 := w20.ew w37
    have gd41 := Gd.go gd24 w37.stick
    refine tr_istore_n dX12_readAlmanac_35 (by decide) (by decide) ?_
    refine tr_aload_n dX12_readAlmanac_36 rfl ?_
    obtain ⟨v42, c43⟩ : ∃ v, I31 a0 9 = v := ⟨_, rfl⟩
    have b44 := iv15_9 hS38.1 ta0 c43
    refine q_getI dX12_readAlmanac_37 fl12_99 (kR15 hS38.1 ta0) c43 ?_
    refine q_iconst dX12_readAlmanac_40 (by decide) ?_
    intro v45 h46
    refine q_icmp_ne 45 dX12_readAlmanac_41 (by decide) (fun h47 => ?_) (fun h47 => ?_)
    · skip
      have p48 := gd41 (by rw [c43]; omega)
      refine tr_aload_n dX12_readAlmanac_45 rfl ?_
      refine tr_getR dX12_readAlmanac_46 fl12_188 (kR15 hS38.1 ta0) d2 ?_
      refine tr_iload_n dX12_readAlmanac_49 rfl ?_
      refine q_putI dX12_readAlmanac_50 fl12_312 (kR14 hS38.1 ta1) (Or.inl rfl) hS38 ta1 (by show (0 : Int) ≤ v35.toInt ∧ v35.toInt ≤ (8 : Int); omega) rfl (by decide +kernel) ?_
      intro I49 hS50 e51 f52
      have c53 : I49 a1 9 = v3 := (f52 _ _ (fun q => absurd q.2 (by decide))).trans c39
      have c54 : I49 a0 9 = v42 := (f52 _ _ (fun q => absurd q.2 (by decide))).trans c43
      have w55 : RdI a0 I0 I49 := w40.keep (f52 _ _ (fun q => absurd q.2 (by decide))) (f52 _ _ (fun q => by have z := ta0; rw [q.1, ta1] at z; exact absurd z (by decide))) (f52 _ _ (fun q => absurd q.2 (by decide))) (f52 _ _ (fun q => absurd q.2 (by decide)))
      have gd56 := Gd.keep gd41 (f52 _ _ (fun q => absurd q.2 (by decide)))
      refine tr_aload_n dX12_readAlmanac_53 rfl ?_
      refine tr_getR dX12_readAlmanac_54 fl12_188 (kR15 hS50.1 ta0) d2 ?_
      refine q_iconst dX12_readAlmanac_57 (by decide) ?_
      intro v57 h58
      refine q_putZ dX12_readAlmanac_58 fl12_302 (kR14 hS50.1 ta1) (Or.inl rfl) hS50 ta1 (by omega) (by show (0 : Int) ≤ v57.toInt ∧ v57.toInt ≤ (1 : Int); omega) rfl (by decide +kernel) ?_
      intro I59 hS60 e61 f62
      have c63 : I59 a0 9 = v42 := (f62 _ _ (fun q => by have z := ta0; rw [q.1, ta1] at z; exact absurd z (by decide))).trans c54
      have c64 : I59 a1 8 = v35 := (f62 _ _ (fun q => absurd q.2 (by decide))).trans e51
      have w65 : RdI a0 I0 I59 := w55.keep (f62 _ _ (fun q => by have z := ta0; rw [q.1, ta1] at z; exact absurd z (by decide))) (f62 _ _ (fun q => absurd q.2 (by decide))) (f62 _ _ (fun q => absurd q.2 (by decide))) (f62 _ _ (fun q => absurd q.2 (by decide)))
      have gd66 := Gd.keep gd56 (f62 _ _ (fun q => by have z := ta0; rw [q.1, ta1] at z; exact absurd z (by decide)))
      exact tr_vret hZ dX12_readAlmanac_61 rfl (by decide) (by decide) ⟨rfl, rfl, rfl, rfl, rfl, hS60, w65, trivial⟩
    · skip
      exact tr_vret hZ dX12_readAlmanac_44 rfl (by decide) (by decide) ⟨rfl, rfl, rfl, rfl, rfl, hS38, w40, trivial⟩
  · skip
    refine tr_aload_n dX12_readAlmanac_10 rfl ?_
    refine q_iconst dX12_readAlmanac_11 (by decide) ?_
    intro v67 h68
    obtain ⟨v69, c70⟩ : ∃ v, I0 a0 8 = v := ⟨_, rfl⟩
    have b71 := iv15_8 hS0.1 ta0 c70
    refine q_callVv hE (M' := mX12_flaw) (as := [_]) dX12_readAlmanac_12 lk12_145 inX12_flaw seX12_flaw myX12_flaw (by decide) ⟨by decide, by decide⟩ rfl (kR15 hS0.1 ta0) (Nat.le_of_ble_eq_true rfl) rfl rfl (by decide) (by decide) (k_X12_flaw hS0.1 ta0 (by omega)) ?_
    rintro cn' K' N' I72 R73 L74 ⟨rfl, rfl, rfl, rfl, rfl, g75, p77, p78, w79, -⟩
    have hS80 := hS0.tr g75 (by decide +kernel) (by decide +kernel)
    have c81 : I72 a1 9 = v3 := (g75.cell ta1 (by decide +kernel)).trans c4
    have c82 : I72 a0 8 = v69 := (g75.cell ta0 (by decide +kernel)).trans c70
    have w83 : RdI a0 I0 I72 := (EwI.rf a0 I0).rd w79
    obtain ⟨v84, c85⟩ : ∃ v, I72 a0 9 = v := ⟨_, rfl⟩
    have b86 := iv15_9 hS80.1 ta0 c85
    rw [c85] at p77
    rw [c82] at p78
    rw [c70] at p78
    refine tr_aload_n dX12_readAlmanac_15 rfl ?_
    refine q_iconst dX12_readAlmanac_16 (by decide) ?_
    intro v87 h88
    refine q_iconst dX12_readAlmanac_17 (by decide) ?_
    intro v89 h90
    refine q_callVv hE (M' := mX12_begins) (as := [_, _]) dX12_readAlmanac_18 lk12_268 inX12_begins seX12_begins myX12_begins (by decide) ⟨by decide, by decide⟩ rfl (kR15 hS80.1 ta0) (Nat.le_of_ble_eq_true rfl) rfl rfl (by decide) (by decide) (k_X12_begins hS80.1 ta0 ⟨_, d2⟩) ?_
    rintro cn' K' N' I91 R92 L93 ⟨rfl, rfl, rfl, rfl, g94, p96, w97, -⟩
    have hS98 := hS80.tr g94 (by decide +kernel) (by decide +kernel)
    have c99 : I91 a1 9 = v3 := (g94.cell ta1 (by decide +kernel)).trans c81
    have w100 : RdI a0 I0 I91 := w83.rd w97
    obtain ⟨v101, c102⟩ : ∃ v, I91 a0 9 = v := ⟨_, rfl⟩
    have b103 := iv15_9 hS98.1 ta0 c102
    have gd104 : Gd (I91 a0 9) (v87.toInt ≠ v89.toInt) := p96
    clear p96
    refine tr_aload_n dX12_readAlmanac_21 rfl ?_
    refine tr_aload_n dX12_readAlmanac_22 rfl ?_
    refine tr_getR dX12_readAlmanac_23 fl12_188 (kR15 hS98.1 ta0) d2 ?_
    obtain ⟨a105, d106, ta105⟩ := rf14_16 hW0 ta1
    refine tr_getR dX12_readAlmanac_26 fl12_306 (kR14 hS98.1 ta1) d106 ?_
    refine q_iconst dX12_readAlmanac_29 (by decide) ?_
    intro v107 h108
    refine q_bipush dX12_readAlmanac_30 (by decide +kernel) ?_
    intro v109 h110
    refine q_callVi hE (M' := mX12_readRising) (as := [_, _, _]) dX12_readAlmanac_32 lk12_308 inX12_readRising seX12_readRising myX12_readRising (by decide) ⟨by decide, by decide⟩ rfl (kR15 hS98.1 ta0) (Nat.le_of_ble_eq_true rfl) rfl rfl (by decide) (by decide) (k_X12_readRising_1 hS98.1 ta0 ta105 (by omega) (by omega) ⟨_, d2⟩) ?_
    rintro v115 cn' K' N' I111 R112 L113 ⟨rfl, rfl, rfl, rfl, g114, h116, w117, -⟩
    have hS118 := hS98.tr g114 (by decide +kernel) (by decide +kernel)
    have c119 : I111 a1 9 = v3 := (g114.cell ta1 (by decide +kernel)).trans c99
    have w120 : RdI a0 I0 I111 := w100.ew w117
    have gd121 := Gd.go gd104 w117.stick
    refine tr_istore_n dX12_readAlmanac_35 (by decide) (by decide) ?_
    refine tr_aload_n dX12_readAlmanac_36 rfl ?_
    obtain ⟨v122, c123⟩ : ∃ v, I111 a0 9 = v := ⟨_, rfl⟩
    have b124 := iv15_9 hS118.1 ta0 c123
    refine q_getI dX12_readAlmanac_37 fl12_99 (kR15 hS118.1 ta0) c123 ?_
    refine q_iconst dX12_readAlmanac_40 (by decide) ?_
    intro v125 h126
    refine q_icmp_ne 45 dX12_readAlmanac_41 (by decide) (fun h127 => ?_) (fun h127 => ?_)
    · skip
      have p128 := gd121 (by rw [c123]; omega)
      refine tr_aload_n dX12_readAlmanac_45 rfl ?_
      refine tr_getR dX12_readAlmanac_46 fl12_188 (kR15 hS118.1 ta0) d2 ?_
      refine tr_iload_n dX12_readAlmanac_49 rfl ?_
      refine q_putI dX12_readAlmanac_50 fl12_312 (kR14 hS118.1 ta1) (Or.inl rfl) hS118 ta1 (by show (0 : Int) ≤ v115.toInt ∧ v115.toInt ≤ (8 : Int); omega) rfl (by decide +kernel) ?_
      intro I129 hS130 e131 f132
      have c133 : I129 a1 9 = v3 := (f132 _ _ (fun q => absurd q.2 (by decide))).trans c119
      have c134 : I129 a0 9 = v122 := (f132 _ _ (fun q => absurd q.2 (by decide))).trans c123
      have w135 : RdI a0 I0 I129 := w120.keep (f132 _ _ (fun q => absurd q.2 (by decide))) (f132 _ _ (fun q => by have z := ta0; rw [q.1, ta1] at z; exact absurd z (by decide))) (f132 _ _ (fun q => absurd q.2 (by decide))) (f132 _ _ (fun q => absurd q.2 (by decide)))
      have gd136 := Gd.keep gd121 (f132 _ _ (fun q => absurd q.2 (by decide)))
      refine tr_aload_n dX12_readAlmanac_53 rfl ?_
      refine tr_getR dX12_readAlmanac_54 fl12_188 (kR15 hS130.1 ta0) d2 ?_
      refine q_iconst dX12_readAlmanac_57 (by decide) ?_
      intro v137 h138
      refine q_putZ dX12_readAlmanac_58 fl12_302 (kR14 hS130.1 ta1) (Or.inl rfl) hS130 ta1 (by omega) (by show (0 : Int) ≤ v137.toInt ∧ v137.toInt ≤ (1 : Int); omega) rfl (by decide +kernel) ?_
      intro I139 hS140 e141 f142
      have c143 : I139 a0 9 = v122 := (f142 _ _ (fun q => by have z := ta0; rw [q.1, ta1] at z; exact absurd z (by decide))).trans c134
      have c144 : I139 a1 8 = v115 := (f142 _ _ (fun q => absurd q.2 (by decide))).trans e131
      have w145 : RdI a0 I0 I139 := w135.keep (f142 _ _ (fun q => by have z := ta0; rw [q.1, ta1] at z; exact absurd z (by decide))) (f142 _ _ (fun q => absurd q.2 (by decide))) (f142 _ _ (fun q => absurd q.2 (by decide))) (f142 _ _ (fun q => absurd q.2 (by decide)))
      have gd146 := Gd.keep gd136 (f142 _ _ (fun q => by have z := ta0; rw [q.1, ta1] at z; exact absurd z (by decide)))
      exact tr_vret hZ dX12_readAlmanac_61 rfl (by decide) (by decide) ⟨rfl, rfl, rfl, rfl, rfl, hS140, w145, trivial⟩
    · skip
      exact tr_vret hZ dX12_readAlmanac_44 rfl (by decide) (by decide) ⟨rfl, rfl, rfl, rfl, rfl, hS118, w120, trivial⟩
def wi_X12_readCheese : List Nat := [899, 903, 968, 969, 970, 971, 972, 973, 974, 3775, 4031, 4799, 4863]
def wr_X12_readCheese : List Nat := []
set_option maxHeartbeats 4000000 in
theorem k_X12_readCheese {l : Launch} {T : Nat → Nat} {cn : Nat} {K N : Nat → Nat} {I0 : cz_I} {R0 : cz_R} {L0 : cz_L} (hW0 : Wf T cn K N I0 R0 0) {a0 : Nat} (ta0 : T a0 = 15) (nn4 : ∃ b, R0 a0 4 = some b) : ConE l mX12_readCheese [.ref a0] cn K N I0 R0 L0 (ca_v (fun cn' K' N' I' R' L' => cn = cn' ∧ K = K' ∧ N = N' ∧ R0 = R' ∧ St T cn K N 0 wi_X12_readCheese wr_X12_readCheese I0 R0 I' R0 ∧ RdI a0 I0 I' ∧ True)) := by
  refine ConE.of (by decide +kernel) rfl (Nat.le_of_ble_eq_true rfl) rfl (fun X hX hZ hE => ?_)
  subst hX
  have hS0 : St T cn K N 0 wi_X12_readCheese wr_X12_readCheese I0 R0 I0 R0 := St.rf0 hW0
  obtain ⟨a1, d2⟩ := nn4
  have ta1 : T a1 = 14 := hW0.rsN ta0 rfl d2
  refine tr_aload_n dX12_readCheese_0 rfl ?_
  refine tr_aload_n dX12_readCheese_1 rfl ?_
  refine tr_getR dX12_readCheese_2 fl12_188 (kR15 hS0.1 ta0) d2 ?_
  obtain ⟨v3, c4⟩ : ∃ v, I0 a1 3 = v := ⟨_, rfl⟩
  have b5 := iv14_3 hS0.1 ta1 c4
  refine q_getI dX12_readCheese_5 fl12_224 (kR14 hS0.1 ta1) c4 ?_
  refine q_bipush dX12_readCheese_8 (by decide +kernel) ?_
  intro v6 h7
  refine q_callVv hE (M' := mX12_begins) (as := [_, _]) dX12_readCheese_10 lk12_268 inX12_begins seX12_begins myX12_begins (by decide) ⟨by decide, by decide⟩ rfl (kR15 hS0.1 ta0) (Nat.le_of_ble_eq_true rfl) rfl rfl (by decide) (by decide) (k_X12_begins hS0.1 ta0 ⟨_, d2⟩) ?_
  rintro cn' K' N' I8 R9 L10 ⟨rfl, rfl, rfl, rfl, g11, p13, w14, -⟩
  have hS15 := hS0.tr g11 (by decide +kernel) (by decide +kernel)
  have c16 : I8 a1 3 = v3 := (g11.cell ta1 (by decide +kernel)).trans c4
  have w17 : RdI a0 I0 I8 := (EwI.rf a0 I0).rd w14
  obtain ⟨v18, c19⟩ : ∃ v, I8 a0 9 = v := ⟨_, rfl⟩
  have b20 := iv15_9 hS15.1 ta0 c19
  have gd21 : Gd (I8 a0 9) (v3.toInt ≠ v6.toInt) := p13
  clear p13
  refine tr_aload_n dX12_readCheese_13 rfl ?_
  refine q_callVl hE (M' := mX12_readFresh) (as := []) dX12_readCheese_14 lk12_285 inX12_readFresh seX12_readFresh myX12_readFresh (by decide) ⟨by decide, by decide⟩ rfl (kR15 hS15.1 ta0) (Nat.le_of_ble_eq_true rfl) rfl rfl (by decide) (by decide) (k_X12_readFresh hS15.1 ta0 ⟨_, d2⟩) ?_
  rintro y26 cn' K' N' I22 R23 L24 ⟨rfl, rfl, rfl, rfl, g25, w27, -⟩
  have hS28 := hS15.tr g25 (by decide +kernel) (by decide +kernel)
  have c29 : I22 a1 3 = v3 := (g25.cell ta1 (by decide +kernel)).trans c16
  have w30 : RdI a0 I0 I22 := w17.rd w27
  have gd31 := Gd.go gd21 w27.stick
  refine tr_lstore_n dX12_readCheese_17 (by decide) (by decide) (by decide) ?_
  refine tr_aload_n dX12_readCheese_18 rfl ?_
  refine tr_ldcwS dX12_readCheese_19 ld12_289 ?_
  refine q_iconst dX12_readCheese_22 (by decide) ?_
  intro v32 h33
  refine tr_aload_n dX12_readCheese_23 rfl ?_
  refine tr_getR dX12_readCheese_24 fl12_188 (kR15 hS28.1 ta0) d2 ?_
  obtain ⟨v34, c35⟩ : ∃ v, I0 a1 1 = v := ⟨_, rfl⟩
  have b36 := iv14_1 hW0 ta1 c35
  refine q_getI dX12_readCheese_27 fl12_263 (kR14 hS28.1 ta1) ((hS28.cell ta1 (by decide +kernel)).trans c35) ?_
  refine q_iconst dX12_readCheese_30 (by decide) ?_
  intro v37 h38
  refine q_isubE dX12_readCheese_31 (by intros; omega) ?_
  intro v39 h40
  refine q_callVi hE (M' := mX12_readPart) (as := [_, _, _]) dX12_readCheese_32 lk12_249 inX12_readPart seX12_readPart myX12_readPart (by decide) ⟨by decide, by decide⟩ rfl (kR15 hS28.1 ta0) (Nat.le_of_ble_eq_true rfl) rfl rfl (by decide) (by decide) (k_X12_readPart hS28.1 ta0 (by decide)) ?_
  rintro v45 cn' K' N' I41 R42 L43 ⟨rfl, rfl, rfl, rfl, g44, p46, w47, -⟩
  have hS48 := hS28.tr g44 (by decide +kernel) (by decide +kernel)
  have c49 : I41 a1 3 = v3 := (g44.cell ta1 (by decide +kernel)).trans c29
  have w50 : RdI a0 I0 I41 := w30.rd w47
  have gd51 := Gd.go gd31 w47.stick
  have b52 : 0 ≤ v45.toInt ∧ v45.toInt ≤ 3 := by omega
  clear p46
  refine tr_istore_n dX12_readCheese_35 (by decide) (by decide) ?_
  refine tr_aload_n dX12_readCheese_36 rfl ?_
  refine tr_ldcS dX12_readCheese_37 ld12_186 ?_
  refine q_callVi hE (M' := mX12_eatsWord) (as := [_]) dX12_readCheese_39 lk12_290 inX12_eatsWord seX12_eatsWord myX12_eatsWord (by decide) ⟨by decide, by decide⟩ rfl (kR15 hS48.1 ta0) (Nat.le_of_ble_eq_true rfl) rfl rfl (by decide) (by decide) (k_X12_eatsWord hS48.1 ta0 (by decide)) ?_
  rintro v57 cn' K' N' I53 R54 L55 ⟨rfl, rfl, rfl, rfl, g56, h58, w59, -⟩
  have hS60 := hS48.tr g56 (by decide +kernel) (by decide +kernel)
  have c61 : I53 a1 3 = v3 := (g56.cell ta1 (by decide +kernel)).trans c49
  have w62 : RdI a0 I0 I53 := w50.ew w59
  have gd63 := Gd.go gd51 w59.stick
  refine tr_istore dX12_readCheese_42 (by decide) (by decide) ?_
  refine tr_aload_n dX12_readCheese_44 rfl ?_
  obtain ⟨v64, c65⟩ : ∃ v, I53 a0 9 = v := ⟨_, rfl⟩
  have b66 := iv15_9 hS60.1 ta0 c65
  refine q_getI dX12_readCheese_45 fl12_99 (kR15 hS60.1 ta0) c65 ?_
  refine q_iconst dX12_readCheese_48 (by decide) ?_
  intro v67 h68
  refine q_icmp_ne 53 dX12_readCheese_49 (by decide) (fun h69 => ?_) (fun h69 => ?_)
  · skip
    have p70 := gd63 (by rw [c65]; omega)
    refine tr_aload_n dX12_readCheese_53 rfl ?_
    refine tr_lload_n dX12_readCheese_54 rfl ?_
    refine q_iconst dX12_readCheese_55 (by decide) ?_
    intro v71 h72
    refine tr_aload_n dX12_readCheese_56 rfl ?_
    refine tr_getR dX12_readCheese_57 fl12_188 (kR15 hS60.1 ta0) d2 ?_
    refine q_getI dX12_readCheese_60 fl12_224 (kR14 hS60.1 ta1) c61 ?_
    obtain ⟨v74, c75⟩ : ∃ v, I53 a1 7 = v := ⟨_, rfl⟩
    have b76 := iv14_7 hS60.1 ta1 c75
    obtain ⟨v77, c78⟩ : ∃ v, I0 a1 4 = v := ⟨_, rfl⟩
    have b79 := iv14_4 hW0 ta1 c78
    have p73 := hS60.1.2.2.2.2.1 a0 ta0 _ d2
    rw [c75, c61, ((hS60.cell ta1 (by decide +kernel)).trans c78)] at p73
    refine q_callVv hE (M' := mX12_names) (as := [_, _, _]) dX12_readCheese_63 lk12_293 inX12_names seX12_names myX12_names (by decide) ⟨by decide, by decide⟩ rfl (kR15 hS60.1 ta0) (Nat.le_of_ble_eq_true rfl) rfl rfl (by decide) (by decide) (k_X12_names hS60.1 ta0 (fun q0 z0 => by obtain rfl := Option.some.inj ((d2).symm.trans z0); (try rw [c75]); (try omega)) ⟨_, d2⟩) ?_
    rintro cn' K' N' I80 R81 L82 ⟨rfl, rfl, rfl, rfl, g83, -⟩
    have hS85 := hS60.tr g83 (by decide +kernel) (by decide +kernel)
    have c86 : I80 a1 3 = v3 := (g83.cell ta1 (by decide +kernel)).trans c61
    have c87 : I80 a0 9 = v64 := (g83.cell ta0 (by decide +kernel)).trans c65
    have w88 : RdI a0 I0 I80 := w62.keep (g83.cell ta0 (by decide +kernel)) (g83.cell ta0 (by decide +kernel)) (g83.cell ta0 (by decide +kernel)) (g83.cell ta0 (by decide +kernel))
    have gd89 := Gd.keep gd63 (g83.cell ta0 (by decide +kernel))
    refine tr_aload_n dX12_readCheese_66 rfl ?_
    refine tr_getR dX12_readCheese_67 fl12_188 (kR15 hS85.1 ta0) d2 ?_
    obtain ⟨a90, d91, ta90⟩ := rf14_15 hW0 ta1
    refine tr_getR dX12_readCheese_70 fl12_296 (kR14 hS85.1 ta1) d91 ?_
    refine tr_aload_n dX12_readCheese_73 rfl ?_
    refine tr_getR dX12_readCheese_74 fl12_188 (kR15 hS85.1 ta0) d2 ?_
    refine q_getI dX12_readCheese_77 fl12_224 (kR14 hS85.1 ta1) c86 ?_
    refine tr_iload_n dX12_readCheese_80 rfl ?_
    refine q_iast dX12_readCheese_81 (kR58 hS85.1 ta90) (ti_in (nR58 hS85.1 ta90) (by omega) (by omega)) hS85 ta90 (by show (0 : Int) ≤ v45.toInt ∧ v45.toInt ≤ (3 : Int); omega) rfl (by rfl) ?_
    intro I92 hS93 e95 f94
    have c96 : I92 a1 3 = v3 := (f94 _ _ (fun q => by have z := ta1; rw [q.1, ta90] at z; exact absurd z (by decide))).trans c86
    have c97 : I92 a0 9 = v64 := (f94 _ _ (fun q => by have z := ta0; rw [q.1, ta90] at z; exact absurd z (by decide))).trans c87
    have w98 : RdI a0 I0 I92 := w88.keep (f94 _ _ (fun q => by have z := ta0; rw [q.1, ta90] at z; exact absurd z (by decide))) (f94 _ _ (fun q => by have z := ta0; rw [q.1, ta90] at z; exact absurd z (by decide))) (f94 _ _ (fun q => by have z := ta0; rw [q.1, ta90] at z; exact absurd z (by decide))) (f94 _ _ (fun q => by have z := ta0; rw [q.1, ta90] at z; exact absurd z (by decide)))
    have gd99 := Gd.keep gd89 (f94 _ _ (fun q => by have z := ta0; rw [q.1, ta90] at z; exact absurd z (by decide)))
    refine tr_aload_n dX12_readCheese_82 rfl ?_
    refine tr_getR dX12_readCheese_83 fl12_188 (kR15 hS93.1 ta0) d2 ?_
    obtain ⟨a100, d101, ta100⟩ := rf14_19 hW0 ta1
    refine tr_getR dX12_readCheese_86 fl12_299 (kR14 hS93.1 ta1) d101 ?_
    refine tr_aload_n dX12_readCheese_89 rfl ?_
    refine tr_getR dX12_readCheese_90 fl12_188 (kR15 hS93.1 ta0) d2 ?_
    refine q_getI dX12_readCheese_93 fl12_224 (kR14 hS93.1 ta1) c96 ?_
    refine tr_iload dX12_readCheese_96 rfl ?_
    refine q_zast dX12_readCheese_98 (kR62 hS93.1 ta100) (ti_in (nR62 hS93.1 ta100) (by omega) (by omega)) hS93 ta100 (by omega) rfl rfl (by rfl) ?_
    intro I102 hS103 f104
    have c106 : I102 a1 3 = v3 := (f104 _ _ (fun q => by have z := ta1; rw [q.1, ta100] at z; exact absurd z (by decide))).trans c96
    have c107 : I102 a0 9 = v64 := (f104 _ _ (fun q => by have z := ta0; rw [q.1, ta100] at z; exact absurd z (by decide))).trans c97
    have w108 : RdI a0 I0 I102 := w98.keep (f104 _ _ (fun q => by have z := ta0; rw [q.1, ta100] at z; exact absurd z (by decide))) (f104 _ _ (fun q => by have z := ta0; rw [q.1, ta100] at z; exact absurd z (by decide))) (f104 _ _ (fun q => by have z := ta0; rw [q.1, ta100] at z; exact absurd z (by decide))) (f104 _ _ (fun q => by have z := ta0; rw [q.1, ta100] at z; exact absurd z (by decide)))
    have gd109 := Gd.keep gd99 (f104 _ _ (fun q => by have z := ta0; rw [q.1, ta100] at z; exact absurd z (by decide)))
    refine tr_aload_n dX12_readCheese_99 rfl ?_
    refine tr_getR dX12_readCheese_100 fl12_188 (kR15 hS103.1 ta0) d2 ?_
    refine tr_dup dX12_readCheese_103 rfl ?_
    refine q_getI dX12_readCheese_104 fl12_224 (kR14 hS103.1 ta1) c106 ?_
    refine q_iconst dX12_readCheese_107 (by decide) ?_
    intro v110 h111
    refine q_iaddE dX12_readCheese_108 (by intros; omega) ?_
    intro v112 h113
    refine q_putX dX12_readCheese_109 fl12_224 (kR14 hS103.1 ta1) (Or.inl rfl) hS103 ta1 (by decide +kernel) (hS103.1.putN (d' := 0) ta0 d2 (Or.inr (Or.inl rfl)) (by rw [c106]; omega) (by decide) (by show (0 : Int) ≤ v112.toInt ∧ v112.toInt ≤ (8 : Int); omega)) ?_
    intro I114 hS115 e116 f117
    have c118 : I114 a0 9 = v64 := (f117 _ _ (fun q => absurd q.2 (by decide))).trans c107
    have w119 : RdI a0 I0 I114 := w108.keep (f117 _ _ (fun q => absurd q.2 (by decide))) (f117 _ _ (fun q => absurd q.2 (by decide))) (f117 _ _ (fun q => absurd q.2 (by decide))) (f117 _ _ (fun q => absurd q.2 (by decide)))
    have gd120 := Gd.keep gd109 (f117 _ _ (fun q => absurd q.2 (by decide)))
    exact tr_vret hZ dX12_readCheese_112 rfl (by decide) (by decide) ⟨rfl, rfl, rfl, rfl, rfl, hS115, w119, trivial⟩
  · skip
    exact tr_vret hZ dX12_readCheese_52 rfl (by decide) (by decide) ⟨rfl, rfl, rfl, rfl, rfl, hS60, w62, trivial⟩
def wi_X12_readEvent : List Nat := [898, 968, 969, 970, 971, 972, 973, 974, 3519, 3583, 3647, 3711]
def wr_X12_readEvent : List Nat := []
set_option maxHeartbeats 4000000 in
theorem k_X12_readEvent {l : Launch} {T : Nat → Nat} {cn : Nat} {K N : Nat → Nat} {I0 : cz_I} {R0 : cz_R} {L0 : cz_L} {d : Int} (hW0 : Wf T cn K N I0 R0 d) {a0 : Nat} (ta0 : T a0 = 15) {x1 : Int32} (hx1 : 0 ≤ x1.toInt ∧ x1.toInt ≤ 4) (nn4 : ∃ b, R0 a0 4 = some b) : ConE l mX12_readEvent [.ref a0, .int x1] cn K N I0 R0 L0 (ca_v (fun cn' K' N' I' R' L' => cn = cn' ∧ K = K' ∧ N = N' ∧ R0 = R' ∧ St T cn K N d wi_X12_readEvent wr_X12_readEvent I0 R0 I' R0 ∧ RdI a0 I0 I' ∧ True)) := by
  refine ConE.of (by decide +kernel) rfl (Nat.le_of_ble_eq_true rfl) rfl (fun X hX hZ hE => ?_)
  subst hX
  have hS0 : St T cn K N d wi_X12_readEvent wr_X12_readEvent I0 R0 I0 R0 := St.rf0 hW0
  obtain ⟨a1, d2⟩ := nn4
  have ta1 : T a1 = 14 := hW0.rsN ta0 rfl d2
  refine tr_aload_n dX12_readEvent_0 rfl ?_
  refine tr_aload_n dX12_readEvent_1 rfl ?_
  refine tr_getR dX12_readEvent_2 fl12_188 (kR15 hS0.1 ta0) d2 ?_
  obtain ⟨v3, c4⟩ : ∃ v, I0 a1 2 = v := ⟨_, rfl⟩
  have b5 := iv14_2 hS0.1 ta1 c4
  refine q_getI dX12_readEvent_5 fl12_265 (kR14 hS0.1 ta1) c4 ?_
  refine q_bipush dX12_readEvent_8 (by decide +kernel) ?_
  intro v6 h7
  refine q_callVv hE (M' := mX12_begins) (as := [_, _]) dX12_readEvent_10 lk12_268 inX12_begins seX12_begins myX12_begins (by decide) ⟨by decide, by decide⟩ rfl (kR15 hS0.1 ta0) (Nat.le_of_ble_eq_true rfl) rfl rfl (by decide) (by decide) (k_X12_begins hS0.1 ta0 ⟨_, d2⟩) ?_
  rintro cn' K' N' I8 R9 L10 ⟨rfl, rfl, rfl, rfl, g11, p13, w14, -⟩
  have hS15 := hS0.tr g11 (by decide +kernel) (by decide +kernel)
  have c16 : I8 a1 2 = v3 := (g11.cell ta1 (by decide +kernel)).trans c4
  have w17 : RdI a0 I0 I8 := (EwI.rf a0 I0).rd w14
  obtain ⟨v18, c19⟩ : ∃ v, I8 a0 9 = v := ⟨_, rfl⟩
  have b20 := iv15_9 hS15.1 ta0 c19
  have gd21 : Gd (I8 a0 9) (v3.toInt ≠ v6.toInt) := p13
  clear p13
  refine tr_iload_n dX12_readEvent_13 rfl ?_
  refine q_iconst dX12_readEvent_14 (by decide) ?_
  intro v22 h23
  refine q_icmp_eq 23 dX12_readEvent_15 (by decide) (fun h24 => ?_) (fun h24 => ?_)
  · skip
    refine tr_aload_n dX12_readEvent_23 rfl ?_
    refine q_iconst dX12_readEvent_24 (by decide) ?_
    intro v25 h26
    refine tr_aload_n dX12_readEvent_25 rfl ?_
    refine tr_getR dX12_readEvent_26 fl12_188 (kR15 hS15.1 ta0) d2 ?_
    obtain ⟨v27, c28⟩ : ∃ v, I0 a1 1 = v := ⟨_, rfl⟩
    have b29 := iv14_1 hW0 ta1 c28
    refine q_getI dX12_readEvent_29 fl12_263 (kR14 hS15.1 ta1) ((hS15.cell ta1 (by decide +kernel)).trans c28) ?_
    refine q_iconst dX12_readEvent_32 (by decide) ?_
    intro v30 h31
    refine q_isubE dX12_readEvent_33 (by intros; omega) ?_
    intro v32 h33
    refine q_callVi hE (M' := mX12_readWhole) (as := [_, _]) dX12_readEvent_34 lk12_161 inX12_readWhole seX12_readWhole myX12_readWhole (by decide) ⟨by decide, by decide⟩ rfl (kR15 hS15.1 ta0) (Nat.le_of_ble_eq_true rfl) rfl rfl (by decide) (by decide) (k_X12_readWhole hS15.1 ta0) ?_
    rintro v38 cn' K' N' I34 R35 L36 ⟨rfl, rfl, rfl, rfl, g37, p39, w40, -⟩
    have hS41 := hS15.tr g37 (by decide +kernel) (by decide +kernel)
    have c42 : I34 a1 2 = v3 := (g37.cell ta1 (by decide +kernel)).trans c16
    have w43 : RdI a0 I0 I34 := w17.rd w40
    have gd44 := Gd.go gd21 w40.stick
    have b45 : 0 ≤ v38.toInt ∧ v38.toInt ≤ 3 := by omega
    clear p39
    refine tr_goto 42 dX12_readEvent_37 (by decide) ?_
    refine tr_istore_n dX12_readEvent_42 (by decide) (by decide) ?_
    refine tr_aload_n dX12_readEvent_43 rfl ?_
    refine q_iconst dX12_readEvent_44 (by decide) ?_
    intro v46 h47
    refine tr_aload_n dX12_readEvent_45 rfl ?_
    refine tr_getR dX12_readEvent_46 fl12_188 (kR15 hS41.1 ta0) d2 ?_
    obtain ⟨v48, c49⟩ : ∃ v, I0 a1 0 = v := ⟨_, rfl⟩
    have b50 := iv14_0 hW0 ta1 c49
    refine q_getI dX12_readEvent_49 fl12_192 (kR14 hS41.1 ta1) ((hS41.cell ta1 (by decide +kernel)).trans c49) ?_
    refine q_iconst dX12_readEvent_52 (by decide) ?_
    intro v51 h52
    refine q_isubE dX12_readEvent_53 (by intros; omega) ?_
    intro v53 h54
    refine q_callVi hE (M' := mX12_readWhole) (as := [_, _]) dX12_readEvent_54 lk12_161 inX12_readWhole seX12_readWhole myX12_readWhole (by decide) ⟨by decide, by decide⟩ rfl (kR15 hS41.1 ta0) (Nat.le_of_ble_eq_true rfl) rfl rfl (by decide) (by decide) (k_X12_readWhole hS41.1 ta0) ?_
    rintro v59 cn' K' N' I55 R56 L57 ⟨rfl, rfl, rfl, rfl, g58, p60, w61, -⟩
    have hS62 := hS41.tr g58 (by decide +kernel) (by decide +kernel)
    have c63 : I55 a1 2 = v3 := (g58.cell ta1 (by decide +kernel)).trans c42
    have w64 : RdI a0 I0 I55 := w43.rd w61
    have gd65 := Gd.go gd44 w61.stick
    have b66 : 0 ≤ v59.toInt ∧ v59.toInt ≤ 239 := by omega
    clear p60
    refine tr_istore_n dX12_readEvent_57 (by decide) (by decide) ?_
    refine tr_iload_n dX12_readEvent_58 rfl ?_
    refine q_iconst dX12_readEvent_59 (by decide) ?_
    intro v67 h68
    refine q_icmp_ne 69 dX12_readEvent_60 (by decide) (fun h69 => ?_) (fun h69 => ?_)
    · skip
      refine tr_aload_n dX12_readEvent_69 rfl ?_
      refine tr_ldcwS dX12_readEvent_70 ld12_272 ?_
      refine tr_iload_n dX12_readEvent_73 rfl ?_
      refine q_iconst dX12_readEvent_74 (by decide) ?_
      intro v70 h71
      refine q_iaddE dX12_readEvent_75 (by intros; omega) ?_
      intro v72 h73
      refine tr_aload_n dX12_readEvent_76 rfl ?_
      refine tr_getR dX12_readEvent_77 fl12_188 (kR15 hS62.1 ta0) d2 ?_
      refine q_getI dX12_readEvent_80 fl12_192 (kR14 hS62.1 ta1) ((hS62.cell ta1 (by decide +kernel)).trans c49) ?_
      refine q_callVi hE (M' := mX12_readPart) (as := [_, _, _]) dX12_readEvent_83 lk12_249 inX12_readPart seX12_readPart myX12_readPart (by decide) ⟨by decide, by decide⟩ rfl (kR15 hS62.1 ta0) (Nat.le_of_ble_eq_true rfl) rfl rfl (by decide) (by decide) (k_X12_readPart hS62.1 ta0 (by decide)) ?_
      rintro v78 cn' K' N' I74 R75 L76 ⟨rfl, rfl, rfl, rfl, g77, p79, w80, -⟩
      have hS81 := hS62.tr g77 (by decide +kernel) (by decide +kernel)
      have c82 : I74 a1 2 = v3 := (g77.cell ta1 (by decide +kernel)).trans c63
      have w83 : RdI a0 I0 I74 := w64.rd w80
      have gd84 := Gd.go gd65 w80.stick
      have b85 : 1 ≤ v78.toInt ∧ v78.toInt ≤ 240 := by omega
      clear p79
      refine tr_istore dX12_readEvent_86 (by decide) (by decide) ?_
      refine tr_aload_n dX12_readEvent_88 rfl ?_
      obtain ⟨v86, c87⟩ : ∃ v, I74 a0 9 = v := ⟨_, rfl⟩
      have b88 := iv15_9 hS81.1 ta0 c87
      refine q_getI dX12_readEvent_89 fl12_99 (kR15 hS81.1 ta0) c87 ?_
      refine q_iconst dX12_readEvent_92 (by decide) ?_
      intro v89 h90
      refine q_icmp_ne 97 dX12_readEvent_93 (by decide) (fun h91 => ?_) (fun h91 => ?_)
      · skip
        have p92 := gd84 (by rw [c87]; omega)
        refine tr_aload_n dX12_readEvent_97 rfl ?_
        refine tr_getR dX12_readEvent_98 fl12_188 (kR15 hS81.1 ta0) d2 ?_
        refine q_getI dX12_readEvent_101 fl12_265 (kR14 hS81.1 ta1) c82 ?_
        refine tr_istore dX12_readEvent_104 (by decide) (by decide) ?_
        refine tr_aload_n dX12_readEvent_106 rfl ?_
        refine tr_getR dX12_readEvent_107 fl12_188 (kR15 hS81.1 ta0) d2 ?_
        obtain ⟨a93, d94, ta93⟩ := rf14_11 hW0 ta1
        refine tr_getR dX12_readEvent_110 fl12_274 (kR14 hS81.1 ta1) d94 ?_
        refine tr_iload dX12_readEvent_113 rfl ?_
        refine tr_iload_n dX12_readEvent_115 rfl ?_
        refine q_iastX dX12_readEvent_116 (kR54 hS81.1 ta93) (ti_in (nR54 hS81.1 ta93) (by omega) (by omega)) hS81 ta93 (by rfl) (hS81.1.putK (m := a1) ta1 d94 (by rw [c82]; exact Int.le_of_eq (ti_nat (by omega)).symm)) ?_
        intro I99 hS100 e101 f102
        have c103 : I99 a1 2 = v3 := (f102 _ _ (fun q => by have z := ta1; rw [q.1, ta93] at z; exact absurd z (by decide))).trans c82
        have c104 : I99 a0 9 = v86 := (f102 _ _ (fun q => by have z := ta0; rw [q.1, ta93] at z; exact absurd z (by decide))).trans c87
        have w105 : RdI a0 I0 I99 := w83.keep (f102 _ _ (fun q => by have z := ta0; rw [q.1, ta93] at z; exact absurd z (by decide))) (f102 _ _ (fun q => by have z := ta0; rw [q.1, ta93] at z; exact absurd z (by decide))) (f102 _ _ (fun q => by have z := ta0; rw [q.1, ta93] at z; exact absurd z (by decide))) (f102 _ _ (fun q => by have z := ta0; rw [q.1, ta93] at z; exact absurd z (by decide)))
        have gd106 := Gd.keep gd84 (f102 _ _ (fun q => by have z := ta0; rw [q.1, ta93] at z; exact absurd z (by decide)))
        refine tr_aload_n dX12_readEvent_117 rfl ?_
        refine tr_getR dX12_readEvent_118 fl12_188 (kR15 hS100.1 ta0) d2 ?_
        obtain ⟨a107, d108, ta107⟩ := rf14_12 hW0 ta1
        refine tr_getR dX12_readEvent_121 fl12_277 (kR14 hS100.1 ta1) d108 ?_
        refine tr_iload dX12_readEvent_124 rfl ?_
        refine tr_iload_n dX12_readEvent_126 rfl ?_
        refine q_iastX dX12_readEvent_127 (kR55 hS100.1 ta107) (ti_in (nR55 hS100.1 ta107) (by omega) (by omega)) hS100 ta107 (by rfl) (hS100.1.putH (m := a1) ta1 d108 (by rw [c103]; exact Int.le_of_eq (ti_nat (by omega)).symm) (by omega)) ?_
        intro I113 hS114 e115 f116
        have c117 : I113 a1 2 = v3 := (f116 _ _ (fun q => by have z := ta1; rw [q.1, ta107] at z; exact absurd z (by decide))).trans c103
        have c118 : I113 a0 9 = v86 := (f116 _ _ (fun q => by have z := ta0; rw [q.1, ta107] at z; exact absurd z (by decide))).trans c104
        have c119 : I113 a93 v3.toNatClampNeg = x1 := (f116 _ _ (fun q => by have z := ta93; rw [q.1, ta107] at z; exact absurd z (by decide))).trans e101
        have w120 : RdI a0 I0 I113 := w105.keep (f116 _ _ (fun q => by have z := ta0; rw [q.1, ta107] at z; exact absurd z (by decide))) (f116 _ _ (fun q => by have z := ta0; rw [q.1, ta107] at z; exact absurd z (by decide))) (f116 _ _ (fun q => by have z := ta0; rw [q.1, ta107] at z; exact absurd z (by decide))) (f116 _ _ (fun q => by have z := ta0; rw [q.1, ta107] at z; exact absurd z (by decide)))
        have gd121 := Gd.keep gd106 (f116 _ _ (fun q => by have z := ta0; rw [q.1, ta107] at z; exact absurd z (by decide)))
        refine tr_aload_n dX12_readEvent_128 rfl ?_
        refine tr_getR dX12_readEvent_129 fl12_188 (kR15 hS114.1 ta0) d2 ?_
        obtain ⟨a122, d123, ta122⟩ := rf14_13 hW0 ta1
        refine tr_getR dX12_readEvent_132 fl12_280 (kR14 hS114.1 ta1) d123 ?_
        refine tr_iload dX12_readEvent_135 rfl ?_
        refine tr_iload_n dX12_readEvent_137 rfl ?_
        refine q_iast dX12_readEvent_138 (kR56 hS114.1 ta122) (ti_in (nR56 hS114.1 ta122) (by omega) (by omega)) hS114 ta122 (by show (0 : Int) ≤ v59.toInt ∧ v59.toInt ≤ (240 : Int); omega) rfl (by rfl) ?_
        intro I124 hS125 e127 f126
        have c128 : I124 a1 2 = v3 := (f126 _ _ (fun q => by have z := ta1; rw [q.1, ta122] at z; exact absurd z (by decide))).trans c117
        have c129 : I124 a0 9 = v86 := (f126 _ _ (fun q => by have z := ta0; rw [q.1, ta122] at z; exact absurd z (by decide))).trans c118
        have c130 : I124 a93 v3.toNatClampNeg = x1 := (f126 _ _ (fun q => by have z := ta93; rw [q.1, ta122] at z; exact absurd z (by decide))).trans c119
        have c131 : I124 a107 v3.toNatClampNeg = v38 := (f126 _ _ (fun q => by have z := ta107; rw [q.1, ta122] at z; exact absurd z (by decide))).trans e115
        have w132 : RdI a0 I0 I124 := w120.keep (f126 _ _ (fun q => by have z := ta0; rw [q.1, ta122] at z; exact absurd z (by decide))) (f126 _ _ (fun q => by have z := ta0; rw [q.1, ta122] at z; exact absurd z (by decide))) (f126 _ _ (fun q => by have z := ta0; rw [q.1, ta122] at z; exact absurd z (by decide))) (f126 _ _ (fun q => by have z := ta0; rw [q.1, ta122] at z; exact absurd z (by decide)))
        have gd133 := Gd.keep gd121 (f126 _ _ (fun q => by have z := ta0; rw [q.1, ta122] at z; exact absurd z (by decide)))
        refine tr_aload_n dX12_readEvent_139 rfl ?_
        refine tr_getR dX12_readEvent_140 fl12_188 (kR15 hS125.1 ta0) d2 ?_
        obtain ⟨a134, d135, ta134⟩ := rf14_14 hW0 ta1
        refine tr_getR dX12_readEvent_143 fl12_283 (kR14 hS125.1 ta1) d135 ?_
        refine tr_iload dX12_readEvent_146 rfl ?_
        refine tr_iload dX12_readEvent_148 rfl ?_
        refine q_iast dX12_readEvent_150 (kR57 hS125.1 ta134) (ti_in (nR57 hS125.1 ta134) (by omega) (by omega)) hS125 ta134 (by show (0 : Int) ≤ v78.toInt ∧ v78.toInt ≤ (240 : Int); omega) rfl (by rfl) ?_
        intro I136 hS137 e139 f138
        have c140 : I136 a1 2 = v3 := (f138 _ _ (fun q => by have z := ta1; rw [q.1, ta134] at z; exact absurd z (by decide))).trans c128
        have c141 : I136 a0 9 = v86 := (f138 _ _ (fun q => by have z := ta0; rw [q.1, ta134] at z; exact absurd z (by decide))).trans c129
        have c142 : I136 a93 v3.toNatClampNeg = x1 := (f138 _ _ (fun q => by have z := ta93; rw [q.1, ta134] at z; exact absurd z (by decide))).trans c130
        have c143 : I136 a107 v3.toNatClampNeg = v38 := (f138 _ _ (fun q => by have z := ta107; rw [q.1, ta134] at z; exact absurd z (by decide))).trans c131
        have w144 : RdI a0 I0 I136 := w132.keep (f138 _ _ (fun q => by have z := ta0; rw [q.1, ta134] at z; exact absurd z (by decide))) (f138 _ _ (fun q => by have z := ta0; rw [q.1, ta134] at z; exact absurd z (by decide))) (f138 _ _ (fun q => by have z := ta0; rw [q.1, ta134] at z; exact absurd z (by decide))) (f138 _ _ (fun q => by have z := ta0; rw [q.1, ta134] at z; exact absurd z (by decide)))
        have gd145 := Gd.keep gd133 (f138 _ _ (fun q => by have z := ta0; rw [q.1, ta134] at z; exact absurd z (by decide)))
        refine tr_aload_n dX12_readEvent_151 rfl ?_
        refine tr_getR dX12_readEvent_152 fl12_188 (kR15 hS137.1 ta0) d2 ?_
        refine tr_dup dX12_readEvent_155 rfl ?_
        refine q_getI dX12_readEvent_156 fl12_265 (kR14 hS137.1 ta1) c140 ?_
        refine q_iconst dX12_readEvent_159 (by decide) ?_
        intro v146 h147
        refine q_iaddE dX12_readEvent_160 (by intros; omega) ?_
        intro v148 h149
        refine q_putX dX12_readEvent_161 fl12_265 (kR14 hS137.1 ta1) (Or.inl rfl) hS137 ta1 (by decide +kernel) (hS137.1.putE (i := v3.toNatClampNeg) ta1 d94 d108 (by rw [c140]; exact (ti_nat (by omega)).symm) (by rw [c140]; omega) (by omega) (by rw [c142, c143]; omega)) ?_
        intro I150 hS151 e152 f153
        have c154 : I150 a0 9 = v86 := (f153 _ _ (fun q => absurd q.2 (by decide))).trans c141
        have c155 : I150 a93 v3.toNatClampNeg = x1 := (f153 _ _ (fun q => by have z := ta93; rw [q.1, ta1] at z; exact absurd z (by decide))).trans c142
        have c156 : I150 a107 v3.toNatClampNeg = v38 := (f153 _ _ (fun q => by have z := ta107; rw [q.1, ta1] at z; exact absurd z (by decide))).trans c143
        have w157 : RdI a0 I0 I150 := w144.keep (f153 _ _ (fun q => absurd q.2 (by decide))) (f153 _ _ (fun q => absurd q.2 (by decide))) (f153 _ _ (fun q => absurd q.2 (by decide))) (f153 _ _ (fun q => absurd q.2 (by decide)))
        have gd158 := Gd.keep gd145 (f153 _ _ (fun q => absurd q.2 (by decide)))
        exact tr_vret hZ dX12_readEvent_164 rfl (by decide) (by decide) ⟨rfl, rfl, rfl, rfl, rfl, hS151, w157, trivial⟩
      · skip
        exact tr_vret hZ dX12_readEvent_96 rfl (by decide) (by decide) ⟨rfl, rfl, rfl, rfl, rfl, hS81, w83, trivial⟩
    · skip
      exfalso; omega
  · skip
    refine tr_iload_n dX12_readEvent_18 rfl ?_
    refine q_iconst dX12_readEvent_19 (by decide) ?_
    intro v159 h160
    refine q_icmp_ne 40 dX12_readEvent_20 (by decide) (fun h161 => ?_) (fun h161 => ?_)
    · skip
      refine q_bipush dX12_readEvent_40 (by decide +kernel) ?_
      intro v162 h163
      refine tr_istore_n dX12_readEvent_42 (by decide) (by decide) ?_
      refine tr_aload_n dX12_readEvent_43 rfl ?_
      refine q_iconst dX12_readEvent_44 (by decide) ?_
      intro v164 h165
      refine tr_aload_n dX12_readEvent_45 rfl ?_
      refine tr_getR dX12_readEvent_46 fl12_188 (kR15 hS15.1 ta0) d2 ?_
      obtain ⟨v166, c167⟩ : ∃ v, I0 a1 0 = v := ⟨_, rfl⟩
      have b168 := iv14_0 hW0 ta1 c167
      refine q_getI dX12_readEvent_49 fl12_192 (kR14 hS15.1 ta1) ((hS15.cell ta1 (by decide +kernel)).trans c167) ?_
      refine q_iconst dX12_readEvent_52 (by decide) ?_
      intro v169 h170
      refine q_isubE dX12_readEvent_53 (by intros; omega) ?_
      intro v171 h172
      refine q_callVi hE (M' := mX12_readWhole) (as := [_, _]) dX12_readEvent_54 lk12_161 inX12_readWhole seX12_readWhole myX12_readWhole (by decide) ⟨by decide, by decide⟩ rfl (kR15 hS15.1 ta0) (Nat.le_of_ble_eq_true rfl) rfl rfl (by decide) (by decide) (k_X12_readWhole hS15.1 ta0) ?_
      rintro v177 cn' K' N' I173 R174 L175 ⟨rfl, rfl, rfl, rfl, g176, p178, w179, -⟩
      have hS180 := hS15.tr g176 (by decide +kernel) (by decide +kernel)
      have c181 : I173 a1 2 = v3 := (g176.cell ta1 (by decide +kernel)).trans c16
      have w182 : RdI a0 I0 I173 := w17.rd w179
      have gd183 := Gd.go gd21 w179.stick
      have b184 : 0 ≤ v177.toInt ∧ v177.toInt ≤ 239 := by omega
      clear p178
      refine tr_istore_n dX12_readEvent_57 (by decide) (by decide) ?_
      refine tr_iload_n dX12_readEvent_58 rfl ?_
      refine q_iconst dX12_readEvent_59 (by decide) ?_
      intro v185 h186
      refine q_icmp_ne 69 dX12_readEvent_60 (by decide) (fun h187 => ?_) (fun h187 => ?_)
      · skip
        refine tr_aload_n dX12_readEvent_69 rfl ?_
        refine tr_ldcwS dX12_readEvent_70 ld12_272 ?_
        refine tr_iload_n dX12_readEvent_73 rfl ?_
        refine q_iconst dX12_readEvent_74 (by decide) ?_
        intro v188 h189
        refine q_iaddE dX12_readEvent_75 (by intros; omega) ?_
        intro v190 h191
        refine tr_aload_n dX12_readEvent_76 rfl ?_
        refine tr_getR dX12_readEvent_77 fl12_188 (kR15 hS180.1 ta0) d2 ?_
        refine q_getI dX12_readEvent_80 fl12_192 (kR14 hS180.1 ta1) ((hS180.cell ta1 (by decide +kernel)).trans c167) ?_
        refine q_callVi hE (M' := mX12_readPart) (as := [_, _, _]) dX12_readEvent_83 lk12_249 inX12_readPart seX12_readPart myX12_readPart (by decide) ⟨by decide, by decide⟩ rfl (kR15 hS180.1 ta0) (Nat.le_of_ble_eq_true rfl) rfl rfl (by decide) (by decide) (k_X12_readPart hS180.1 ta0 (by decide)) ?_
        rintro v196 cn' K' N' I192 R193 L194 ⟨rfl, rfl, rfl, rfl, g195, p197, w198, -⟩
        have hS199 := hS180.tr g195 (by decide +kernel) (by decide +kernel)
        have c200 : I192 a1 2 = v3 := (g195.cell ta1 (by decide +kernel)).trans c181
        have w201 : RdI a0 I0 I192 := w182.rd w198
        have gd202 := Gd.go gd183 w198.stick
        have b203 : 1 ≤ v196.toInt ∧ v196.toInt ≤ 240 := by omega
        clear p197
        refine tr_istore dX12_readEvent_86 (by decide) (by decide) ?_
        refine tr_aload_n dX12_readEvent_88 rfl ?_
        obtain ⟨v204, c205⟩ : ∃ v, I192 a0 9 = v := ⟨_, rfl⟩
        have b206 := iv15_9 hS199.1 ta0 c205
        refine q_getI dX12_readEvent_89 fl12_99 (kR15 hS199.1 ta0) c205 ?_
        refine q_iconst dX12_readEvent_92 (by decide) ?_
        intro v207 h208
        refine q_icmp_ne 97 dX12_readEvent_93 (by decide) (fun h209 => ?_) (fun h209 => ?_)
        · skip
          have p210 := gd202 (by rw [c205]; omega)
          refine tr_aload_n dX12_readEvent_97 rfl ?_
          refine tr_getR dX12_readEvent_98 fl12_188 (kR15 hS199.1 ta0) d2 ?_
          refine q_getI dX12_readEvent_101 fl12_265 (kR14 hS199.1 ta1) c200 ?_
          refine tr_istore dX12_readEvent_104 (by decide) (by decide) ?_
          refine tr_aload_n dX12_readEvent_106 rfl ?_
          refine tr_getR dX12_readEvent_107 fl12_188 (kR15 hS199.1 ta0) d2 ?_
          obtain ⟨a211, d212, ta211⟩ := rf14_11 hW0 ta1
          refine tr_getR dX12_readEvent_110 fl12_274 (kR14 hS199.1 ta1) d212 ?_
          refine tr_iload dX12_readEvent_113 rfl ?_
          refine tr_iload_n dX12_readEvent_115 rfl ?_
          refine q_iastX dX12_readEvent_116 (kR54 hS199.1 ta211) (ti_in (nR54 hS199.1 ta211) (by omega) (by omega)) hS199 ta211 (by rfl) (hS199.1.putK (m := a1) ta1 d212 (by rw [c200]; exact Int.le_of_eq (ti_nat (by omega)).symm)) ?_
          intro I217 hS218 e219 f220
          have c221 : I217 a1 2 = v3 := (f220 _ _ (fun q => by have z := ta1; rw [q.1, ta211] at z; exact absurd z (by decide))).trans c200
          have c222 : I217 a0 9 = v204 := (f220 _ _ (fun q => by have z := ta0; rw [q.1, ta211] at z; exact absurd z (by decide))).trans c205
          have w223 : RdI a0 I0 I217 := w201.keep (f220 _ _ (fun q => by have z := ta0; rw [q.1, ta211] at z; exact absurd z (by decide))) (f220 _ _ (fun q => by have z := ta0; rw [q.1, ta211] at z; exact absurd z (by decide))) (f220 _ _ (fun q => by have z := ta0; rw [q.1, ta211] at z; exact absurd z (by decide))) (f220 _ _ (fun q => by have z := ta0; rw [q.1, ta211] at z; exact absurd z (by decide)))
          have gd224 := Gd.keep gd202 (f220 _ _ (fun q => by have z := ta0; rw [q.1, ta211] at z; exact absurd z (by decide)))
          refine tr_aload_n dX12_readEvent_117 rfl ?_
          refine tr_getR dX12_readEvent_118 fl12_188 (kR15 hS218.1 ta0) d2 ?_
          obtain ⟨a225, d226, ta225⟩ := rf14_12 hW0 ta1
          refine tr_getR dX12_readEvent_121 fl12_277 (kR14 hS218.1 ta1) d226 ?_
          refine tr_iload dX12_readEvent_124 rfl ?_
          refine tr_iload_n dX12_readEvent_126 rfl ?_
          refine q_iastX dX12_readEvent_127 (kR55 hS218.1 ta225) (ti_in (nR55 hS218.1 ta225) (by omega) (by omega)) hS218 ta225 (by rfl) (hS218.1.putH (m := a1) ta1 d226 (by rw [c221]; exact Int.le_of_eq (ti_nat (by omega)).symm) (by omega)) ?_
          intro I231 hS232 e233 f234
          have c235 : I231 a1 2 = v3 := (f234 _ _ (fun q => by have z := ta1; rw [q.1, ta225] at z; exact absurd z (by decide))).trans c221
          have c236 : I231 a0 9 = v204 := (f234 _ _ (fun q => by have z := ta0; rw [q.1, ta225] at z; exact absurd z (by decide))).trans c222
          have c237 : I231 a211 v3.toNatClampNeg = x1 := (f234 _ _ (fun q => by have z := ta211; rw [q.1, ta225] at z; exact absurd z (by decide))).trans e219
          have w238 : RdI a0 I0 I231 := w223.keep (f234 _ _ (fun q => by have z := ta0; rw [q.1, ta225] at z; exact absurd z (by decide))) (f234 _ _ (fun q => by have z := ta0; rw [q.1, ta225] at z; exact absurd z (by decide))) (f234 _ _ (fun q => by have z := ta0; rw [q.1, ta225] at z; exact absurd z (by decide))) (f234 _ _ (fun q => by have z := ta0; rw [q.1, ta225] at z; exact absurd z (by decide)))
          have gd239 := Gd.keep gd224 (f234 _ _ (fun q => by have z := ta0; rw [q.1, ta225] at z; exact absurd z (by decide)))
          refine tr_aload_n dX12_readEvent_128 rfl ?_
          refine tr_getR dX12_readEvent_129 fl12_188 (kR15 hS232.1 ta0) d2 ?_
          obtain ⟨a240, d241, ta240⟩ := rf14_13 hW0 ta1
          refine tr_getR dX12_readEvent_132 fl12_280 (kR14 hS232.1 ta1) d241 ?_
          refine tr_iload dX12_readEvent_135 rfl ?_
          refine tr_iload_n dX12_readEvent_137 rfl ?_
          refine q_iast dX12_readEvent_138 (kR56 hS232.1 ta240) (ti_in (nR56 hS232.1 ta240) (by omega) (by omega)) hS232 ta240 (by show (0 : Int) ≤ v177.toInt ∧ v177.toInt ≤ (240 : Int); omega) rfl (by rfl) ?_
          intro I242 hS243 e245 f244
          have c246 : I242 a1 2 = v3 := (f244 _ _ (fun q => by have z := ta1; rw [q.1, ta240] at z; exact absurd z (by decide))).trans c235
          have c247 : I242 a0 9 = v204 := (f244 _ _ (fun q => by have z := ta0; rw [q.1, ta240] at z; exact absurd z (by decide))).trans c236
          have c248 : I242 a211 v3.toNatClampNeg = x1 := (f244 _ _ (fun q => by have z := ta211; rw [q.1, ta240] at z; exact absurd z (by decide))).trans c237
          have c249 : I242 a225 v3.toNatClampNeg = v162 := (f244 _ _ (fun q => by have z := ta225; rw [q.1, ta240] at z; exact absurd z (by decide))).trans e233
          have w250 : RdI a0 I0 I242 := w238.keep (f244 _ _ (fun q => by have z := ta0; rw [q.1, ta240] at z; exact absurd z (by decide))) (f244 _ _ (fun q => by have z := ta0; rw [q.1, ta240] at z; exact absurd z (by decide))) (f244 _ _ (fun q => by have z := ta0; rw [q.1, ta240] at z; exact absurd z (by decide))) (f244 _ _ (fun q => by have z := ta0; rw [q.1, ta240] at z; exact absurd z (by decide)))
          have gd251 := Gd.keep gd239 (f244 _ _ (fun q => by have z := ta0; rw [q.1, ta240] at z; exact absurd z (by decide)))
          refine tr_aload_n dX12_readEvent_139 rfl ?_
          refine tr_getR dX12_readEvent_140 fl12_188 (kR15 hS243.1 ta0) d2 ?_
          obtain ⟨a252, d253, ta252⟩ := rf14_14 hW0 ta1
          refine tr_getR dX12_readEvent_143 fl12_283 (kR14 hS243.1 ta1) d253 ?_
          refine tr_iload dX12_readEvent_146 rfl ?_
          refine tr_iload dX12_readEvent_148 rfl ?_
          refine q_iast dX12_readEvent_150 (kR57 hS243.1 ta252) (ti_in (nR57 hS243.1 ta252) (by omega) (by omega)) hS243 ta252 (by show (0 : Int) ≤ v196.toInt ∧ v196.toInt ≤ (240 : Int); omega) rfl (by rfl) ?_
          intro I254 hS255 e257 f256
          have c258 : I254 a1 2 = v3 := (f256 _ _ (fun q => by have z := ta1; rw [q.1, ta252] at z; exact absurd z (by decide))).trans c246
          have c259 : I254 a0 9 = v204 := (f256 _ _ (fun q => by have z := ta0; rw [q.1, ta252] at z; exact absurd z (by decide))).trans c247
          have c260 : I254 a211 v3.toNatClampNeg = x1 := (f256 _ _ (fun q => by have z := ta211; rw [q.1, ta252] at z; exact absurd z (by decide))).trans c248
          have c261 : I254 a225 v3.toNatClampNeg = v162 := (f256 _ _ (fun q => by have z := ta225; rw [q.1, ta252] at z; exact absurd z (by decide))).trans c249
          have w262 : RdI a0 I0 I254 := w250.keep (f256 _ _ (fun q => by have z := ta0; rw [q.1, ta252] at z; exact absurd z (by decide))) (f256 _ _ (fun q => by have z := ta0; rw [q.1, ta252] at z; exact absurd z (by decide))) (f256 _ _ (fun q => by have z := ta0; rw [q.1, ta252] at z; exact absurd z (by decide))) (f256 _ _ (fun q => by have z := ta0; rw [q.1, ta252] at z; exact absurd z (by decide)))
          have gd263 := Gd.keep gd251 (f256 _ _ (fun q => by have z := ta0; rw [q.1, ta252] at z; exact absurd z (by decide)))
          refine tr_aload_n dX12_readEvent_151 rfl ?_
          refine tr_getR dX12_readEvent_152 fl12_188 (kR15 hS255.1 ta0) d2 ?_
          refine tr_dup dX12_readEvent_155 rfl ?_
          refine q_getI dX12_readEvent_156 fl12_265 (kR14 hS255.1 ta1) c258 ?_
          refine q_iconst dX12_readEvent_159 (by decide) ?_
          intro v264 h265
          refine q_iaddE dX12_readEvent_160 (by intros; omega) ?_
          intro v266 h267
          refine q_putX dX12_readEvent_161 fl12_265 (kR14 hS255.1 ta1) (Or.inl rfl) hS255 ta1 (by decide +kernel) (hS255.1.putE (i := v3.toNatClampNeg) ta1 d212 d226 (by rw [c258]; exact (ti_nat (by omega)).symm) (by rw [c258]; omega) (by omega) (by rw [c260, c261]; omega)) ?_
          intro I268 hS269 e270 f271
          have c272 : I268 a0 9 = v204 := (f271 _ _ (fun q => absurd q.2 (by decide))).trans c259
          have c273 : I268 a211 v3.toNatClampNeg = x1 := (f271 _ _ (fun q => by have z := ta211; rw [q.1, ta1] at z; exact absurd z (by decide))).trans c260
          have c274 : I268 a225 v3.toNatClampNeg = v162 := (f271 _ _ (fun q => by have z := ta225; rw [q.1, ta1] at z; exact absurd z (by decide))).trans c261
          have w275 : RdI a0 I0 I268 := w262.keep (f271 _ _ (fun q => absurd q.2 (by decide))) (f271 _ _ (fun q => absurd q.2 (by decide))) (f271 _ _ (fun q => absurd q.2 (by decide))) (f271 _ _ (fun q => absurd q.2 (by decide)))
          have gd276 := Gd.keep gd263 (f271 _ _ (fun q => absurd q.2 (by decide)))
          exact tr_vret hZ dX12_readEvent_164 rfl (by decide) (by decide) ⟨rfl, rfl, rfl, rfl, rfl, hS269, w275, trivial⟩
        · skip
          exact tr_vret hZ dX12_readEvent_96 rfl (by decide) (by decide) ⟨rfl, rfl, rfl, rfl, rfl, hS199, w201, trivial⟩
      · skip
        refine tr_iload_n dX12_readEvent_63 rfl ?_
        refine q_iconst dX12_readEvent_64 (by decide) ?_
        intro v277 h278
        refine q_iaddE dX12_readEvent_65 (by intros; omega) ?_
        intro v279 h280
        refine tr_goto 86 dX12_readEvent_66 (by decide) ?_
        refine tr_istore dX12_readEvent_86 (by decide) (by decide) ?_
        refine tr_aload_n dX12_readEvent_88 rfl ?_
        obtain ⟨v281, c282⟩ : ∃ v, I173 a0 9 = v := ⟨_, rfl⟩
        have b283 := iv15_9 hS180.1 ta0 c282
        refine q_getI dX12_readEvent_89 fl12_99 (kR15 hS180.1 ta0) c282 ?_
        refine q_iconst dX12_readEvent_92 (by decide) ?_
        intro v284 h285
        refine q_icmp_ne 97 dX12_readEvent_93 (by decide) (fun h286 => ?_) (fun h286 => ?_)
        · skip
          have p287 := gd183 (by rw [c282]; omega)
          refine tr_aload_n dX12_readEvent_97 rfl ?_
          refine tr_getR dX12_readEvent_98 fl12_188 (kR15 hS180.1 ta0) d2 ?_
          refine q_getI dX12_readEvent_101 fl12_265 (kR14 hS180.1 ta1) c181 ?_
          refine tr_istore dX12_readEvent_104 (by decide) (by decide) ?_
          refine tr_aload_n dX12_readEvent_106 rfl ?_
          refine tr_getR dX12_readEvent_107 fl12_188 (kR15 hS180.1 ta0) d2 ?_
          obtain ⟨a288, d289, ta288⟩ := rf14_11 hW0 ta1
          refine tr_getR dX12_readEvent_110 fl12_274 (kR14 hS180.1 ta1) d289 ?_
          refine tr_iload dX12_readEvent_113 rfl ?_
          refine tr_iload_n dX12_readEvent_115 rfl ?_
          refine q_iastX dX12_readEvent_116 (kR54 hS180.1 ta288) (ti_in (nR54 hS180.1 ta288) (by omega) (by omega)) hS180 ta288 (by rfl) (hS180.1.putK (m := a1) ta1 d289 (by rw [c181]; exact Int.le_of_eq (ti_nat (by omega)).symm)) ?_
          intro I294 hS295 e296 f297
          have c298 : I294 a1 2 = v3 := (f297 _ _ (fun q => by have z := ta1; rw [q.1, ta288] at z; exact absurd z (by decide))).trans c181
          have c299 : I294 a0 9 = v281 := (f297 _ _ (fun q => by have z := ta0; rw [q.1, ta288] at z; exact absurd z (by decide))).trans c282
          have w300 : RdI a0 I0 I294 := w182.keep (f297 _ _ (fun q => by have z := ta0; rw [q.1, ta288] at z; exact absurd z (by decide))) (f297 _ _ (fun q => by have z := ta0; rw [q.1, ta288] at z; exact absurd z (by decide))) (f297 _ _ (fun q => by have z := ta0; rw [q.1, ta288] at z; exact absurd z (by decide))) (f297 _ _ (fun q => by have z := ta0; rw [q.1, ta288] at z; exact absurd z (by decide)))
          have gd301 := Gd.keep gd183 (f297 _ _ (fun q => by have z := ta0; rw [q.1, ta288] at z; exact absurd z (by decide)))
          refine tr_aload_n dX12_readEvent_117 rfl ?_
          refine tr_getR dX12_readEvent_118 fl12_188 (kR15 hS295.1 ta0) d2 ?_
          obtain ⟨a302, d303, ta302⟩ := rf14_12 hW0 ta1
          refine tr_getR dX12_readEvent_121 fl12_277 (kR14 hS295.1 ta1) d303 ?_
          refine tr_iload dX12_readEvent_124 rfl ?_
          refine tr_iload_n dX12_readEvent_126 rfl ?_
          refine q_iastX dX12_readEvent_127 (kR55 hS295.1 ta302) (ti_in (nR55 hS295.1 ta302) (by omega) (by omega)) hS295 ta302 (by rfl) (hS295.1.putH (m := a1) ta1 d303 (by rw [c298]; exact Int.le_of_eq (ti_nat (by omega)).symm) (by omega)) ?_
          intro I308 hS309 e310 f311
          have c312 : I308 a1 2 = v3 := (f311 _ _ (fun q => by have z := ta1; rw [q.1, ta302] at z; exact absurd z (by decide))).trans c298
          have c313 : I308 a0 9 = v281 := (f311 _ _ (fun q => by have z := ta0; rw [q.1, ta302] at z; exact absurd z (by decide))).trans c299
          have c314 : I308 a288 v3.toNatClampNeg = x1 := (f311 _ _ (fun q => by have z := ta288; rw [q.1, ta302] at z; exact absurd z (by decide))).trans e296
          have w315 : RdI a0 I0 I308 := w300.keep (f311 _ _ (fun q => by have z := ta0; rw [q.1, ta302] at z; exact absurd z (by decide))) (f311 _ _ (fun q => by have z := ta0; rw [q.1, ta302] at z; exact absurd z (by decide))) (f311 _ _ (fun q => by have z := ta0; rw [q.1, ta302] at z; exact absurd z (by decide))) (f311 _ _ (fun q => by have z := ta0; rw [q.1, ta302] at z; exact absurd z (by decide)))
          have gd316 := Gd.keep gd301 (f311 _ _ (fun q => by have z := ta0; rw [q.1, ta302] at z; exact absurd z (by decide)))
          refine tr_aload_n dX12_readEvent_128 rfl ?_
          refine tr_getR dX12_readEvent_129 fl12_188 (kR15 hS309.1 ta0) d2 ?_
          obtain ⟨a317, d318, ta317⟩ := rf14_13 hW0 ta1
          refine tr_getR dX12_readEvent_132 fl12_280 (kR14 hS309.1 ta1) d318 ?_
          refine tr_iload dX12_readEvent_135 rfl ?_
          refine tr_iload_n dX12_readEvent_137 rfl ?_
          refine q_iast dX12_readEvent_138 (kR56 hS309.1 ta317) (ti_in (nR56 hS309.1 ta317) (by omega) (by omega)) hS309 ta317 (by show (0 : Int) ≤ v177.toInt ∧ v177.toInt ≤ (240 : Int); omega) rfl (by rfl) ?_
          intro I319 hS320 e322 f321
          have c323 : I319 a1 2 = v3 := (f321 _ _ (fun q => by have z := ta1; rw [q.1, ta317] at z; exact absurd z (by decide))).trans c312
          have c324 : I319 a0 9 = v281 := (f321 _ _ (fun q => by have z := ta0; rw [q.1, ta317] at z; exact absurd z (by decide))).trans c313
          have c325 : I319 a288 v3.toNatClampNeg = x1 := (f321 _ _ (fun q => by have z := ta288; rw [q.1, ta317] at z; exact absurd z (by decide))).trans c314
          have c326 : I319 a302 v3.toNatClampNeg = v162 := (f321 _ _ (fun q => by have z := ta302; rw [q.1, ta317] at z; exact absurd z (by decide))).trans e310
          have w327 : RdI a0 I0 I319 := w315.keep (f321 _ _ (fun q => by have z := ta0; rw [q.1, ta317] at z; exact absurd z (by decide))) (f321 _ _ (fun q => by have z := ta0; rw [q.1, ta317] at z; exact absurd z (by decide))) (f321 _ _ (fun q => by have z := ta0; rw [q.1, ta317] at z; exact absurd z (by decide))) (f321 _ _ (fun q => by have z := ta0; rw [q.1, ta317] at z; exact absurd z (by decide)))
          have gd328 := Gd.keep gd316 (f321 _ _ (fun q => by have z := ta0; rw [q.1, ta317] at z; exact absurd z (by decide)))
          refine tr_aload_n dX12_readEvent_139 rfl ?_
          refine tr_getR dX12_readEvent_140 fl12_188 (kR15 hS320.1 ta0) d2 ?_
          obtain ⟨a329, d330, ta329⟩ := rf14_14 hW0 ta1
          refine tr_getR dX12_readEvent_143 fl12_283 (kR14 hS320.1 ta1) d330 ?_
          refine tr_iload dX12_readEvent_146 rfl ?_
          refine tr_iload dX12_readEvent_148 rfl ?_
          refine q_iast dX12_readEvent_150 (kR57 hS320.1 ta329) (ti_in (nR57 hS320.1 ta329) (by omega) (by omega)) hS320 ta329 (by show (0 : Int) ≤ v279.toInt ∧ v279.toInt ≤ (240 : Int); omega) rfl (by rfl) ?_
          intro I331 hS332 e334 f333
          have c335 : I331 a1 2 = v3 := (f333 _ _ (fun q => by have z := ta1; rw [q.1, ta329] at z; exact absurd z (by decide))).trans c323
          have c336 : I331 a0 9 = v281 := (f333 _ _ (fun q => by have z := ta0; rw [q.1, ta329] at z; exact absurd z (by decide))).trans c324
          have c337 : I331 a288 v3.toNatClampNeg = x1 := (f333 _ _ (fun q => by have z := ta288; rw [q.1, ta329] at z; exact absurd z (by decide))).trans c325
          have c338 : I331 a302 v3.toNatClampNeg = v162 := (f333 _ _ (fun q => by have z := ta302; rw [q.1, ta329] at z; exact absurd z (by decide))).trans c326
          have w339 : RdI a0 I0 I331 := w327.keep (f333 _ _ (fun q => by have z := ta0; rw [q.1, ta329] at z; exact absurd z (by decide))) (f333 _ _ (fun q => by have z := ta0; rw [q.1, ta329] at z; exact absurd z (by decide))) (f333 _ _ (fun q => by have z := ta0; rw [q.1, ta329] at z; exact absurd z (by decide))) (f333 _ _ (fun q => by have z := ta0; rw [q.1, ta329] at z; exact absurd z (by decide)))
          have gd340 := Gd.keep gd328 (f333 _ _ (fun q => by have z := ta0; rw [q.1, ta329] at z; exact absurd z (by decide)))
          refine tr_aload_n dX12_readEvent_151 rfl ?_
          refine tr_getR dX12_readEvent_152 fl12_188 (kR15 hS332.1 ta0) d2 ?_
          refine tr_dup dX12_readEvent_155 rfl ?_
          refine q_getI dX12_readEvent_156 fl12_265 (kR14 hS332.1 ta1) c335 ?_
          refine q_iconst dX12_readEvent_159 (by decide) ?_
          intro v341 h342
          refine q_iaddE dX12_readEvent_160 (by intros; omega) ?_
          intro v343 h344
          refine q_putX dX12_readEvent_161 fl12_265 (kR14 hS332.1 ta1) (Or.inl rfl) hS332 ta1 (by decide +kernel) (hS332.1.putE (i := v3.toNatClampNeg) ta1 d289 d303 (by rw [c335]; exact (ti_nat (by omega)).symm) (by rw [c335]; omega) (by omega) (by rw [c337, c338]; omega)) ?_
          intro I345 hS346 e347 f348
          have c349 : I345 a0 9 = v281 := (f348 _ _ (fun q => absurd q.2 (by decide))).trans c336
          have c350 : I345 a288 v3.toNatClampNeg = x1 := (f348 _ _ (fun q => by have z := ta288; rw [q.1, ta1] at z; exact absurd z (by decide))).trans c337
          have c351 : I345 a302 v3.toNatClampNeg = v162 := (f348 _ _ (fun q => by have z := ta302; rw [q.1, ta1] at z; exact absurd z (by decide))).trans c338
          have w352 : RdI a0 I0 I345 := w339.keep (f348 _ _ (fun q => absurd q.2 (by decide))) (f348 _ _ (fun q => absurd q.2 (by decide))) (f348 _ _ (fun q => absurd q.2 (by decide))) (f348 _ _ (fun q => absurd q.2 (by decide)))
          have gd353 := Gd.keep gd340 (f348 _ _ (fun q => absurd q.2 (by decide)))
          exact tr_vret hZ dX12_readEvent_164 rfl (by decide) (by decide) ⟨rfl, rfl, rfl, rfl, rfl, hS346, w352, trivial⟩
        · skip
          exact tr_vret hZ dX12_readEvent_96 rfl (by decide) (by decide) ⟨rfl, rfl, rfl, rfl, rfl, hS180, w182, trivial⟩
    · skip
      refine tr_aload_n dX12_readEvent_23 rfl ?_
      refine q_iconst dX12_readEvent_24 (by decide) ?_
      intro v354 h355
      refine tr_aload_n dX12_readEvent_25 rfl ?_
      refine tr_getR dX12_readEvent_26 fl12_188 (kR15 hS15.1 ta0) d2 ?_
      obtain ⟨v356, c357⟩ : ∃ v, I0 a1 1 = v := ⟨_, rfl⟩
      have b358 := iv14_1 hW0 ta1 c357
      refine q_getI dX12_readEvent_29 fl12_263 (kR14 hS15.1 ta1) ((hS15.cell ta1 (by decide +kernel)).trans c357) ?_
      refine q_iconst dX12_readEvent_32 (by decide) ?_
      intro v359 h360
      refine q_isubE dX12_readEvent_33 (by intros; omega) ?_
      intro v361 h362
      refine q_callVi hE (M' := mX12_readWhole) (as := [_, _]) dX12_readEvent_34 lk12_161 inX12_readWhole seX12_readWhole myX12_readWhole (by decide) ⟨by decide, by decide⟩ rfl (kR15 hS15.1 ta0) (Nat.le_of_ble_eq_true rfl) rfl rfl (by decide) (by decide) (k_X12_readWhole hS15.1 ta0) ?_
      rintro v367 cn' K' N' I363 R364 L365 ⟨rfl, rfl, rfl, rfl, g366, p368, w369, -⟩
      have hS370 := hS15.tr g366 (by decide +kernel) (by decide +kernel)
      have c371 : I363 a1 2 = v3 := (g366.cell ta1 (by decide +kernel)).trans c16
      have w372 : RdI a0 I0 I363 := w17.rd w369
      have gd373 := Gd.go gd21 w369.stick
      have b374 : 0 ≤ v367.toInt ∧ v367.toInt ≤ 3 := by omega
      clear p368
      refine tr_goto 42 dX12_readEvent_37 (by decide) ?_
      refine tr_istore_n dX12_readEvent_42 (by decide) (by decide) ?_
      refine tr_aload_n dX12_readEvent_43 rfl ?_
      refine q_iconst dX12_readEvent_44 (by decide) ?_
      intro v375 h376
      refine tr_aload_n dX12_readEvent_45 rfl ?_
      refine tr_getR dX12_readEvent_46 fl12_188 (kR15 hS370.1 ta0) d2 ?_
      obtain ⟨v377, c378⟩ : ∃ v, I0 a1 0 = v := ⟨_, rfl⟩
      have b379 := iv14_0 hW0 ta1 c378
      refine q_getI dX12_readEvent_49 fl12_192 (kR14 hS370.1 ta1) ((hS370.cell ta1 (by decide +kernel)).trans c378) ?_
      refine q_iconst dX12_readEvent_52 (by decide) ?_
      intro v380 h381
      refine q_isubE dX12_readEvent_53 (by intros; omega) ?_
      intro v382 h383
      refine q_callVi hE (M' := mX12_readWhole) (as := [_, _]) dX12_readEvent_54 lk12_161 inX12_readWhole seX12_readWhole myX12_readWhole (by decide) ⟨by decide, by decide⟩ rfl (kR15 hS370.1 ta0) (Nat.le_of_ble_eq_true rfl) rfl rfl (by decide) (by decide) (k_X12_readWhole hS370.1 ta0) ?_
      rintro v388 cn' K' N' I384 R385 L386 ⟨rfl, rfl, rfl, rfl, g387, p389, w390, -⟩
      have hS391 := hS370.tr g387 (by decide +kernel) (by decide +kernel)
      have c392 : I384 a1 2 = v3 := (g387.cell ta1 (by decide +kernel)).trans c371
      have w393 : RdI a0 I0 I384 := w372.rd w390
      have gd394 := Gd.go gd373 w390.stick
      have b395 : 0 ≤ v388.toInt ∧ v388.toInt ≤ 239 := by omega
      clear p389
      refine tr_istore_n dX12_readEvent_57 (by decide) (by decide) ?_
      refine tr_iload_n dX12_readEvent_58 rfl ?_
      refine q_iconst dX12_readEvent_59 (by decide) ?_
      intro v396 h397
      refine q_icmp_ne 69 dX12_readEvent_60 (by decide) (fun h398 => ?_) (fun h398 => ?_)
      · skip
        refine tr_aload_n dX12_readEvent_69 rfl ?_
        refine tr_ldcwS dX12_readEvent_70 ld12_272 ?_
        refine tr_iload_n dX12_readEvent_73 rfl ?_
        refine q_iconst dX12_readEvent_74 (by decide) ?_
        intro v399 h400
        refine q_iaddE dX12_readEvent_75 (by intros; omega) ?_
        intro v401 h402
        refine tr_aload_n dX12_readEvent_76 rfl ?_
        refine tr_getR dX12_readEvent_77 fl12_188 (kR15 hS391.1 ta0) d2 ?_
        refine q_getI dX12_readEvent_80 fl12_192 (kR14 hS391.1 ta1) ((hS391.cell ta1 (by decide +kernel)).trans c378) ?_
        refine q_callVi hE (M' := mX12_readPart) (as := [_, _, _]) dX12_readEvent_83 lk12_249 inX12_readPart seX12_readPart myX12_readPart (by decide) ⟨by decide, by decide⟩ rfl (kR15 hS391.1 ta0) (Nat.le_of_ble_eq_true rfl) rfl rfl (by decide) (by decide) (k_X12_readPart hS391.1 ta0 (by decide)) ?_
        rintro v407 cn' K' N' I403 R404 L405 ⟨rfl, rfl, rfl, rfl, g406, p408, w409, -⟩
        have hS410 := hS391.tr g406 (by decide +kernel) (by decide +kernel)
        have c411 : I403 a1 2 = v3 := (g406.cell ta1 (by decide +kernel)).trans c392
        have w412 : RdI a0 I0 I403 := w393.rd w409
        have gd413 := Gd.go gd394 w409.stick
        have b414 : 1 ≤ v407.toInt ∧ v407.toInt ≤ 240 := by omega
        clear p408
        refine tr_istore dX12_readEvent_86 (by decide) (by decide) ?_
        refine tr_aload_n dX12_readEvent_88 rfl ?_
        obtain ⟨v415, c416⟩ : ∃ v, I403 a0 9 = v := ⟨_, rfl⟩
        have b417 := iv15_9 hS410.1 ta0 c416
        refine q_getI dX12_readEvent_89 fl12_99 (kR15 hS410.1 ta0) c416 ?_
        refine q_iconst dX12_readEvent_92 (by decide) ?_
        intro v418 h419
        refine q_icmp_ne 97 dX12_readEvent_93 (by decide) (fun h420 => ?_) (fun h420 => ?_)
        · skip
          have p421 := gd413 (by rw [c416]; omega)
          refine tr_aload_n dX12_readEvent_97 rfl ?_
          refine tr_getR dX12_readEvent_98 fl12_188 (kR15 hS410.1 ta0) d2 ?_
          refine q_getI dX12_readEvent_101 fl12_265 (kR14 hS410.1 ta1) c411 ?_
          refine tr_istore dX12_readEvent_104 (by decide) (by decide) ?_
          refine tr_aload_n dX12_readEvent_106 rfl ?_
          refine tr_getR dX12_readEvent_107 fl12_188 (kR15 hS410.1 ta0) d2 ?_
          obtain ⟨a422, d423, ta422⟩ := rf14_11 hW0 ta1
          refine tr_getR dX12_readEvent_110 fl12_274 (kR14 hS410.1 ta1) d423 ?_
          refine tr_iload dX12_readEvent_113 rfl ?_
          refine tr_iload_n dX12_readEvent_115 rfl ?_
          refine q_iastX dX12_readEvent_116 (kR54 hS410.1 ta422) (ti_in (nR54 hS410.1 ta422) (by omega) (by omega)) hS410 ta422 (by rfl) (hS410.1.putK (m := a1) ta1 d423 (by rw [c411]; exact Int.le_of_eq (ti_nat (by omega)).symm)) ?_
          intro I428 hS429 e430 f431
          have c432 : I428 a1 2 = v3 := (f431 _ _ (fun q => by have z := ta1; rw [q.1, ta422] at z; exact absurd z (by decide))).trans c411
          have c433 : I428 a0 9 = v415 := (f431 _ _ (fun q => by have z := ta0; rw [q.1, ta422] at z; exact absurd z (by decide))).trans c416
          have w434 : RdI a0 I0 I428 := w412.keep (f431 _ _ (fun q => by have z := ta0; rw [q.1, ta422] at z; exact absurd z (by decide))) (f431 _ _ (fun q => by have z := ta0; rw [q.1, ta422] at z; exact absurd z (by decide))) (f431 _ _ (fun q => by have z := ta0; rw [q.1, ta422] at z; exact absurd z (by decide))) (f431 _ _ (fun q => by have z := ta0; rw [q.1, ta422] at z; exact absurd z (by decide)))
          have gd435 := Gd.keep gd413 (f431 _ _ (fun q => by have z := ta0; rw [q.1, ta422] at z; exact absurd z (by decide)))
          refine tr_aload_n dX12_readEvent_117 rfl ?_
          refine tr_getR dX12_readEvent_118 fl12_188 (kR15 hS429.1 ta0) d2 ?_
          obtain ⟨a436, d437, ta436⟩ := rf14_12 hW0 ta1
          refine tr_getR dX12_readEvent_121 fl12_277 (kR14 hS429.1 ta1) d437 ?_
          refine tr_iload dX12_readEvent_124 rfl ?_
          refine tr_iload_n dX12_readEvent_126 rfl ?_
          refine q_iastX dX12_readEvent_127 (kR55 hS429.1 ta436) (ti_in (nR55 hS429.1 ta436) (by omega) (by omega)) hS429 ta436 (by rfl) (hS429.1.putH (m := a1) ta1 d437 (by rw [c432]; exact Int.le_of_eq (ti_nat (by omega)).symm) (by omega)) ?_
          intro I442 hS443 e444 f445
          have c446 : I442 a1 2 = v3 := (f445 _ _ (fun q => by have z := ta1; rw [q.1, ta436] at z; exact absurd z (by decide))).trans c432
          have c447 : I442 a0 9 = v415 := (f445 _ _ (fun q => by have z := ta0; rw [q.1, ta436] at z; exact absurd z (by decide))).trans c433
          have c448 : I442 a422 v3.toNatClampNeg = x1 := (f445 _ _ (fun q => by have z := ta422; rw [q.1, ta436] at z; exact absurd z (by decide))).trans e430
          have w449 : RdI a0 I0 I442 := w434.keep (f445 _ _ (fun q => by have z := ta0; rw [q.1, ta436] at z; exact absurd z (by decide))) (f445 _ _ (fun q => by have z := ta0; rw [q.1, ta436] at z; exact absurd z (by decide))) (f445 _ _ (fun q => by have z := ta0; rw [q.1, ta436] at z; exact absurd z (by decide))) (f445 _ _ (fun q => by have z := ta0; rw [q.1, ta436] at z; exact absurd z (by decide)))
          have gd450 := Gd.keep gd435 (f445 _ _ (fun q => by have z := ta0; rw [q.1, ta436] at z; exact absurd z (by decide)))
          refine tr_aload_n dX12_readEvent_128 rfl ?_
          refine tr_getR dX12_readEvent_129 fl12_188 (kR15 hS443.1 ta0) d2 ?_
          obtain ⟨a451, d452, ta451⟩ := rf14_13 hW0 ta1
          refine tr_getR dX12_readEvent_132 fl12_280 (kR14 hS443.1 ta1) d452 ?_
          refine tr_iload dX12_readEvent_135 rfl ?_
          refine tr_iload_n dX12_readEvent_137 rfl ?_
          refine q_iast dX12_readEvent_138 (kR56 hS443.1 ta451) (ti_in (nR56 hS443.1 ta451) (by omega) (by omega)) hS443 ta451 (by show (0 : Int) ≤ v388.toInt ∧ v388.toInt ≤ (240 : Int); omega) rfl (by rfl) ?_
          intro I453 hS454 e456 f455
          have c457 : I453 a1 2 = v3 := (f455 _ _ (fun q => by have z := ta1; rw [q.1, ta451] at z; exact absurd z (by decide))).trans c446
          have c458 : I453 a0 9 = v415 := (f455 _ _ (fun q => by have z := ta0; rw [q.1, ta451] at z; exact absurd z (by decide))).trans c447
          have c459 : I453 a422 v3.toNatClampNeg = x1 := (f455 _ _ (fun q => by have z := ta422; rw [q.1, ta451] at z; exact absurd z (by decide))).trans c448
          have c460 : I453 a436 v3.toNatClampNeg = v367 := (f455 _ _ (fun q => by have z := ta436; rw [q.1, ta451] at z; exact absurd z (by decide))).trans e444
          have w461 : RdI a0 I0 I453 := w449.keep (f455 _ _ (fun q => by have z := ta0; rw [q.1, ta451] at z; exact absurd z (by decide))) (f455 _ _ (fun q => by have z := ta0; rw [q.1, ta451] at z; exact absurd z (by decide))) (f455 _ _ (fun q => by have z := ta0; rw [q.1, ta451] at z; exact absurd z (by decide))) (f455 _ _ (fun q => by have z := ta0; rw [q.1, ta451] at z; exact absurd z (by decide)))
          have gd462 := Gd.keep gd450 (f455 _ _ (fun q => by have z := ta0; rw [q.1, ta451] at z; exact absurd z (by decide)))
          refine tr_aload_n dX12_readEvent_139 rfl ?_
          refine tr_getR dX12_readEvent_140 fl12_188 (kR15 hS454.1 ta0) d2 ?_
          obtain ⟨a463, d464, ta463⟩ := rf14_14 hW0 ta1
          refine tr_getR dX12_readEvent_143 fl12_283 (kR14 hS454.1 ta1) d464 ?_
          refine tr_iload dX12_readEvent_146 rfl ?_
          refine tr_iload dX12_readEvent_148 rfl ?_
          refine q_iast dX12_readEvent_150 (kR57 hS454.1 ta463) (ti_in (nR57 hS454.1 ta463) (by omega) (by omega)) hS454 ta463 (by show (0 : Int) ≤ v407.toInt ∧ v407.toInt ≤ (240 : Int); omega) rfl (by rfl) ?_
          intro I465 hS466 e468 f467
          have c469 : I465 a1 2 = v3 := (f467 _ _ (fun q => by have z := ta1; rw [q.1, ta463] at z; exact absurd z (by decide))).trans c457
          have c470 : I465 a0 9 = v415 := (f467 _ _ (fun q => by have z := ta0; rw [q.1, ta463] at z; exact absurd z (by decide))).trans c458
          have c471 : I465 a422 v3.toNatClampNeg = x1 := (f467 _ _ (fun q => by have z := ta422; rw [q.1, ta463] at z; exact absurd z (by decide))).trans c459
          have c472 : I465 a436 v3.toNatClampNeg = v367 := (f467 _ _ (fun q => by have z := ta436; rw [q.1, ta463] at z; exact absurd z (by decide))).trans c460
          have w473 : RdI a0 I0 I465 := w461.keep (f467 _ _ (fun q => by have z := ta0; rw [q.1, ta463] at z; exact absurd z (by decide))) (f467 _ _ (fun q => by have z := ta0; rw [q.1, ta463] at z; exact absurd z (by decide))) (f467 _ _ (fun q => by have z := ta0; rw [q.1, ta463] at z; exact absurd z (by decide))) (f467 _ _ (fun q => by have z := ta0; rw [q.1, ta463] at z; exact absurd z (by decide)))
          have gd474 := Gd.keep gd462 (f467 _ _ (fun q => by have z := ta0; rw [q.1, ta463] at z; exact absurd z (by decide)))
          refine tr_aload_n dX12_readEvent_151 rfl ?_
          refine tr_getR dX12_readEvent_152 fl12_188 (kR15 hS466.1 ta0) d2 ?_
          refine tr_dup dX12_readEvent_155 rfl ?_
          refine q_getI dX12_readEvent_156 fl12_265 (kR14 hS466.1 ta1) c469 ?_
          refine q_iconst dX12_readEvent_159 (by decide) ?_
          intro v475 h476
          refine q_iaddE dX12_readEvent_160 (by intros; omega) ?_
          intro v477 h478
          refine q_putX dX12_readEvent_161 fl12_265 (kR14 hS466.1 ta1) (Or.inl rfl) hS466 ta1 (by decide +kernel) (hS466.1.putE (i := v3.toNatClampNeg) ta1 d423 d437 (by rw [c469]; exact (ti_nat (by omega)).symm) (by rw [c469]; omega) (by omega) (by rw [c471, c472]; omega)) ?_
          intro I479 hS480 e481 f482
          have c483 : I479 a0 9 = v415 := (f482 _ _ (fun q => absurd q.2 (by decide))).trans c470
          have c484 : I479 a422 v3.toNatClampNeg = x1 := (f482 _ _ (fun q => by have z := ta422; rw [q.1, ta1] at z; exact absurd z (by decide))).trans c471
          have c485 : I479 a436 v3.toNatClampNeg = v367 := (f482 _ _ (fun q => by have z := ta436; rw [q.1, ta1] at z; exact absurd z (by decide))).trans c472
          have w486 : RdI a0 I0 I479 := w473.keep (f482 _ _ (fun q => absurd q.2 (by decide))) (f482 _ _ (fun q => absurd q.2 (by decide))) (f482 _ _ (fun q => absurd q.2 (by decide))) (f482 _ _ (fun q => absurd q.2 (by decide)))
          have gd487 := Gd.keep gd474 (f482 _ _ (fun q => absurd q.2 (by decide)))
          exact tr_vret hZ dX12_readEvent_164 rfl (by decide) (by decide) ⟨rfl, rfl, rfl, rfl, rfl, hS480, w486, trivial⟩
        · skip
          exact tr_vret hZ dX12_readEvent_96 rfl (by decide) (by decide) ⟨rfl, rfl, rfl, rfl, rfl, hS410, w412, trivial⟩
      · skip
        exfalso; omega
def wi_X12_needsSign : List Nat := [968, 969, 970, 971, 972, 973, 974]
def wr_X12_needsSign : List Nat := []
set_option maxHeartbeats 4000000 in
theorem k_X12_needsSign {l : Launch} {T : Nat → Nat} {cn : Nat} {K N : Nat → Nat} {I0 : cz_I} {R0 : cz_R} {L0 : cz_L} {d : Int} (hW0 : Wf T cn K N I0 R0 d) {a0 : Nat} (ta0 : T a0 = 15) {x1 : Int32} : ConE l mX12_needsSign [.ref a0, .int x1] cn K N I0 R0 L0 (ca_v (fun cn' K' N' I' R' L' => cn = cn' ∧ K = K' ∧ N = N' ∧ R0 = R' ∧ St T cn K N d wi_X12_needsSign wr_X12_needsSign I0 R0 I' R0 ∧ RdI a0 I0 I' ∧ True)) := by
  refine ConE.of (by decide +kernel) rfl (Nat.le_of_ble_eq_true rfl) rfl (fun X hX hZ hE => ?_)
  subst hX
  have hS0 : St T cn K N d wi_X12_needsSign wr_X12_needsSign I0 R0 I0 R0 := St.rf0 hW0
  refine tr_aload_n dX12_needsSign_0 rfl ?_
  obtain ⟨v1, c2⟩ : ∃ v, I0 a0 9 = v := ⟨_, rfl⟩
  have b3 := iv15_9 hS0.1 ta0 c2
  refine q_getI dX12_needsSign_1 fl12_99 (kR15 hS0.1 ta0) c2 ?_
  refine q_iconst dX12_needsSign_4 (by decide) ?_
  intro v4 h5
  refine q_icmp_ne 16 dX12_needsSign_5 (by decide) (fun h6 => ?_) (fun h6 => ?_)
  · skip
    refine tr_aload_n dX12_needsSign_16 rfl ?_
    refine q_iconst dX12_needsSign_17 (by decide) ?_
    intro v7 h8
    obtain ⟨v9, c10⟩ : ∃ v, I0 a0 8 = v := ⟨_, rfl⟩
    have b11 := iv15_8 hS0.1 ta0 c10
    refine q_callVv hE (M' := mX12_flaw) (as := [_]) dX12_needsSign_18 lk12_145 inX12_flaw seX12_flaw myX12_flaw (by decide) ⟨by decide, by decide⟩ rfl (kR15 hS0.1 ta0) (Nat.le_of_ble_eq_true rfl) rfl rfl (by decide) (by decide) (k_X12_flaw hS0.1 ta0 (by omega)) ?_
    rintro cn' K' N' I12 R13 L14 ⟨rfl, rfl, rfl, rfl, rfl, g15, p17, p18, w19, -⟩
    have hS20 := hS0.tr g15 (by decide +kernel) (by decide +kernel)
    have c21 : I12 a0 8 = v9 := (g15.cell ta0 (by decide +kernel)).trans c10
    have w22 : RdI a0 I0 I12 := (EwI.rf a0 I0).rd w19
    obtain ⟨v23, c24⟩ : ∃ v, I12 a0 9 = v := ⟨_, rfl⟩
    have b25 := iv15_9 hS20.1 ta0 c24
    rw [c24] at p17
    rw [c21] at p18
    rw [c10] at p18
    refine tr_aload_n dX12_needsSign_21 rfl ?_
    obtain ⟨v26, c27⟩ : ∃ v, I12 a0 13 = v := ⟨_, rfl⟩
    refine q_callVv hE (M' := mX12_goesOn) (as := []) dX12_needsSign_22 lk12_142 inX12_goesOn seX12_goesOn myX12_goesOn (by decide) ⟨by decide, by decide⟩ rfl (kR15 hS20.1 ta0) (Nat.le_of_ble_eq_true rfl) rfl rfl (by decide) (by decide) (k_X12_goesOn hS20.1 ta0) ?_
    rintro cn' K' N' I28 R29 L30 ⟨rfl, rfl, rfl, rfl, g31, p33, p34, p35, w36, -⟩
    have hS37 := hS20.tr g31 (by decide +kernel) (by decide +kernel)
    have c38 : I28 a0 13 = v26 := (g31.cell ta0 (by decide +kernel)).trans c27
    have w39 : RdI a0 I0 I28 := w22.rd w36
    obtain ⟨v40, c41⟩ : ∃ v, I28 a0 9 = v := ⟨_, rfl⟩
    have b42 := iv15_9 hS37.1 ta0 c41
    rw [c24] at p33
    rw [c41] at p33
    rw [c24] at p34
    rw [c41] at p34
    obtain ⟨v43, c44⟩ : ∃ v, I28 a0 8 = v := ⟨_, rfl⟩
    have b45 := iv15_8 hS37.1 ta0 c44
    rw [c44] at p35
    rw [c21] at p35
    rw [c38] at p35
    rw [c27] at p35
    exact tr_vret hZ dX12_needsSign_25 rfl (by decide) (by decide) ⟨rfl, rfl, rfl, rfl, rfl, hS37, w39, trivial⟩
  · skip
    refine tr_aload_n dX12_needsSign_8 rfl ?_
    obtain ⟨v46, c47⟩ : ∃ v, I0 a0 11 = v := ⟨_, rfl⟩
    refine q_getI dX12_needsSign_9 fl12_111 (kR15 hS0.1 ta0) c47 ?_
    refine tr_iload_n dX12_needsSign_12 rfl ?_
    refine q_icmp_eq 21 dX12_needsSign_13 (by decide) (fun h48 => ?_) (fun h48 => ?_)
    · skip
      refine tr_aload_n dX12_needsSign_21 rfl ?_
      obtain ⟨v49, c50⟩ : ∃ v, I0 a0 8 = v := ⟨_, rfl⟩
      have b51 := iv15_8 hS0.1 ta0 c50
      obtain ⟨v52, c53⟩ : ∃ v, I0 a0 13 = v := ⟨_, rfl⟩
      refine q_callVv hE (M' := mX12_goesOn) (as := []) dX12_needsSign_22 lk12_142 inX12_goesOn seX12_goesOn myX12_goesOn (by decide) ⟨by decide, by decide⟩ rfl (kR15 hS0.1 ta0) (Nat.le_of_ble_eq_true rfl) rfl rfl (by decide) (by decide) (k_X12_goesOn hS0.1 ta0) ?_
      rintro cn' K' N' I54 R55 L56 ⟨rfl, rfl, rfl, rfl, g57, p59, p60, p61, w62, -⟩
      have hS63 := hS0.tr g57 (by decide +kernel) (by decide +kernel)
      have c64 : I54 a0 13 = v52 := (g57.cell ta0 (by decide +kernel)).trans c53
      have w65 : RdI a0 I0 I54 := (EwI.rf a0 I0).rd w62
      obtain ⟨v66, c67⟩ : ∃ v, I54 a0 9 = v := ⟨_, rfl⟩
      have b68 := iv15_9 hS63.1 ta0 c67
      rw [c2] at p59
      rw [c67] at p59
      rw [c2] at p60
      rw [c67] at p60
      obtain ⟨v69, c70⟩ : ∃ v, I54 a0 8 = v := ⟨_, rfl⟩
      have b71 := iv15_8 hS63.1 ta0 c70
      rw [c70] at p61
      rw [c50] at p61
      rw [c64] at p61
      rw [c53] at p61
      exact tr_vret hZ dX12_needsSign_25 rfl (by decide) (by decide) ⟨rfl, rfl, rfl, rfl, rfl, hS63, w65, trivial⟩
    · skip
      refine tr_aload_n dX12_needsSign_16 rfl ?_
      refine q_iconst dX12_needsSign_17 (by decide) ?_
      intro v72 h73
      obtain ⟨v74, c75⟩ : ∃ v, I0 a0 8 = v := ⟨_, rfl⟩
      have b76 := iv15_8 hS0.1 ta0 c75
      refine q_callVv hE (M' := mX12_flaw) (as := [_]) dX12_needsSign_18 lk12_145 inX12_flaw seX12_flaw myX12_flaw (by decide) ⟨by decide, by decide⟩ rfl (kR15 hS0.1 ta0) (Nat.le_of_ble_eq_true rfl) rfl rfl (by decide) (by decide) (k_X12_flaw hS0.1 ta0 (by omega)) ?_
      rintro cn' K' N' I77 R78 L79 ⟨rfl, rfl, rfl, rfl, rfl, g80, p82, p83, w84, -⟩
      have hS85 := hS0.tr g80 (by decide +kernel) (by decide +kernel)
      have c86 : I77 a0 11 = v46 := (g80.cell ta0 (by decide +kernel)).trans c47
      have c87 : I77 a0 8 = v74 := (g80.cell ta0 (by decide +kernel)).trans c75
      have w88 : RdI a0 I0 I77 := (EwI.rf a0 I0).rd w84
      obtain ⟨v89, c90⟩ : ∃ v, I77 a0 9 = v := ⟨_, rfl⟩
      have b91 := iv15_9 hS85.1 ta0 c90
      rw [c90] at p82
      rw [c87] at p83
      rw [c75] at p83
      refine tr_aload_n dX12_needsSign_21 rfl ?_
      obtain ⟨v92, c93⟩ : ∃ v, I77 a0 13 = v := ⟨_, rfl⟩
      refine q_callVv hE (M' := mX12_goesOn) (as := []) dX12_needsSign_22 lk12_142 inX12_goesOn seX12_goesOn myX12_goesOn (by decide) ⟨by decide, by decide⟩ rfl (kR15 hS85.1 ta0) (Nat.le_of_ble_eq_true rfl) rfl rfl (by decide) (by decide) (k_X12_goesOn hS85.1 ta0) ?_
      rintro cn' K' N' I94 R95 L96 ⟨rfl, rfl, rfl, rfl, g97, p99, p100, p101, w102, -⟩
      have hS103 := hS85.tr g97 (by decide +kernel) (by decide +kernel)
      have c104 : I94 a0 13 = v92 := (g97.cell ta0 (by decide +kernel)).trans c93
      have w105 : RdI a0 I0 I94 := w88.rd w102
      obtain ⟨v106, c107⟩ : ∃ v, I94 a0 9 = v := ⟨_, rfl⟩
      have b108 := iv15_9 hS103.1 ta0 c107
      rw [c90] at p99
      rw [c107] at p99
      rw [c90] at p100
      rw [c107] at p100
      obtain ⟨v109, c110⟩ : ∃ v, I94 a0 8 = v := ⟨_, rfl⟩
      have b111 := iv15_8 hS103.1 ta0 c110
      rw [c110] at p101
      rw [c87] at p101
      rw [c104] at p101
      rw [c93] at p101
      exact tr_vret hZ dX12_needsSign_25 rfl (by decide) (by decide) ⟨rfl, rfl, rfl, rfl, rfl, hS103, w105, trivial⟩
def wi_X12_readAlp : List Nat := [896, 897, 968, 969, 970, 971, 972, 973, 974, 3455]
def wr_X12_readAlp : List Nat := []
set_option maxHeartbeats 4000000 in
theorem k_X12_readAlp {l : Launch} {T : Nat → Nat} {cn : Nat} {K N : Nat → Nat} {I0 : cz_I} {R0 : cz_R} {L0 : cz_L} {d : Int} (hW0 : Wf T cn K N I0 R0 d) {a0 : Nat} (ta0 : T a0 = 15) (nn4 : ∃ b, R0 a0 4 = some b) : ConE l mX12_readAlp [.ref a0] cn K N I0 R0 L0 (ca_v (fun cn' K' N' I' R' L' => cn = cn' ∧ K = K' ∧ N = N' ∧ R0 = R' ∧ St T cn K N d wi_X12_readAlp wr_X12_readAlp I0 R0 I' R0 ∧ RdI a0 I0 I' ∧ True)) := by
  refine ConE.of (by decide +kernel) rfl (Nat.le_of_ble_eq_true rfl) rfl (fun X hX hZ hE => ?_)
  subst hX
  have hS0 : St T cn K N d wi_X12_readAlp wr_X12_readAlp I0 R0 I0 R0 := St.rf0 hW0
  obtain ⟨a1, d2⟩ := nn4
  have ta1 : T a1 = 14 := hW0.rsN ta0 rfl d2
  refine tr_aload_n dX12_readAlp_0 rfl ?_
  refine tr_getR dX12_readAlp_1 fl12_188 (kR15 hS0.1 ta0) d2 ?_
  obtain ⟨v3, c4⟩ : ∃ v, I0 a1 0 = v := ⟨_, rfl⟩
  have b5 := iv14_0 hS0.1 ta1 c4
  refine q_getI dX12_readAlp_4 fl12_192 (kR14 hS0.1 ta1) c4 ?_
  refine q_if_le 15 dX12_readAlp_7 (by decide) (fun h6 => ?_) (fun h6 => ?_)
  · skip
    refine tr_aload_n dX12_readAlp_15 rfl ?_
    obtain ⟨v7, c8⟩ : ∃ v, I0 a0 9 = v := ⟨_, rfl⟩
    have b9 := iv15_9 hS0.1 ta0 c8
    obtain ⟨v10, c11⟩ : ∃ v, I0 a0 8 = v := ⟨_, rfl⟩
    have b12 := iv15_8 hS0.1 ta0 c11
    obtain ⟨v13, c14⟩ : ∃ v, I0 a0 13 = v := ⟨_, rfl⟩
    refine q_callVv hE (M' := mX12_goesOn) (as := []) dX12_readAlp_16 lk12_142 inX12_goesOn seX12_goesOn myX12_goesOn (by decide) ⟨by decide, by decide⟩ rfl (kR15 hS0.1 ta0) (Nat.le_of_ble_eq_true rfl) rfl rfl (by decide) (by decide) (k_X12_goesOn hS0.1 ta0) ?_
    rintro cn' K' N' I15 R16 L17 ⟨rfl, rfl, rfl, rfl, g18, p20, p21, p22, w23, -⟩
    have hS24 := hS0.tr g18 (by decide +kernel) (by decide +kernel)
    have c25 : I15 a1 0 = v3 := (g18.cell ta1 (by decide +kernel)).trans c4
    have c26 : I15 a0 13 = v13 := (g18.cell ta0 (by decide +kernel)).trans c14
    have w27 : RdI a0 I0 I15 := (EwI.rf a0 I0).rd w23
    obtain ⟨v28, c29⟩ : ∃ v, I15 a0 9 = v := ⟨_, rfl⟩
    have b30 := iv15_9 hS24.1 ta0 c29
    rw [c8] at p20
    rw [c29] at p20
    rw [c8] at p21
    rw [c29] at p21
    obtain ⟨v31, c32⟩ : ∃ v, I15 a0 8 = v := ⟨_, rfl⟩
    have b33 := iv15_8 hS24.1 ta0 c32
    rw [c32] at p22
    rw [c11] at p22
    rw [c26] at p22
    rw [c14] at p22
    refine tr_aload_n dX12_readAlp_19 rfl ?_
    refine tr_ldcS dX12_readAlp_20 ld12_248 ?_
    refine q_bipush dX12_readAlp_22 (by decide +kernel) ?_
    intro v34 h35
    refine q_sipush dX12_readAlp_24 (by decide +kernel) ?_
    intro v36 h37
    refine q_callVi hE (M' := mX12_readPart) (as := [_, _, _]) dX12_readAlp_27 lk12_249 inX12_readPart seX12_readPart myX12_readPart (by decide) ⟨by decide, by decide⟩ rfl (kR15 hS24.1 ta0) (Nat.le_of_ble_eq_true rfl) rfl rfl (by decide) (by decide) (k_X12_readPart hS24.1 ta0 (by decide)) ?_
    rintro v42 cn' K' N' I38 R39 L40 ⟨rfl, rfl, rfl, rfl, g41, p43, w44, -⟩
    have hS45 := hS24.tr g41 (by decide +kernel) (by decide +kernel)
    have c46 : I38 a1 0 = v3 := (g41.cell ta1 (by decide +kernel)).trans c25
    have w47 : RdI a0 I0 I38 := w27.rd w44
    have b48 : 10 ≤ v42.toInt ∧ v42.toInt ≤ 240 := by omega
    clear p43
    refine tr_istore_n dX12_readAlp_30 (by decide) (by decide) ?_
    refine tr_aload_n dX12_readAlp_31 rfl ?_
    refine tr_ldcS dX12_readAlp_32 ld12_253 ?_
    refine q_iconst dX12_readAlp_34 (by decide) ?_
    intro v49 h50
    refine q_iconst dX12_readAlp_35 (by decide) ?_
    intro v51 h52
    refine q_callVi hE (M' := mX12_readPart) (as := [_, _, _]) dX12_readAlp_36 lk12_249 inX12_readPart seX12_readPart myX12_readPart (by decide) ⟨by decide, by decide⟩ rfl (kR15 hS45.1 ta0) (Nat.le_of_ble_eq_true rfl) rfl rfl (by decide) (by decide) (k_X12_readPart hS45.1 ta0 (by decide)) ?_
    rintro v57 cn' K' N' I53 R54 L55 ⟨rfl, rfl, rfl, rfl, g56, p58, w59, -⟩
    have hS60 := hS45.tr g56 (by decide +kernel) (by decide +kernel)
    have c61 : I53 a1 0 = v3 := (g56.cell ta1 (by decide +kernel)).trans c46
    have w62 : RdI a0 I0 I53 := w47.rd w59
    have b63 : 1 ≤ v57.toInt ∧ v57.toInt ≤ 4 := by omega
    clear p58
    refine tr_istore_n dX12_readAlp_39 (by decide) (by decide) ?_
    refine tr_aload_n dX12_readAlp_40 rfl ?_
    refine tr_ldcS dX12_readAlp_41 ld12_255 ?_
    refine q_callVv hE (M' := mX12_needs) (as := [_]) dX12_readAlp_43 lk12_157 inX12_needs seX12_needs myX12_needs (by decide) ⟨by decide, by decide⟩ rfl (kR15 hS60.1 ta0) (Nat.le_of_ble_eq_true rfl) rfl rfl (by decide) (by decide) (k_X12_needs hS60.1 ta0 (by decide)) ?_
    rintro cn' K' N' I64 R65 L66 ⟨rfl, rfl, rfl, rfl, g67, w69, -⟩
    have hS70 := hS60.tr g67 (by decide +kernel) (by decide +kernel)
    have c71 : I64 a1 0 = v3 := (g67.cell ta1 (by decide +kernel)).trans c61
    have w72 : RdI a0 I0 I64 := w62.rd w69
    refine q_iconst dX12_readAlp_46 (by decide) ?_
    intro v73 h74
    refine tr_istore_n dX12_readAlp_47 (by decide) (by decide) ?_
    have lp85 : ∀ (fu : Nat) (ls : Nat → Option Value) (v75 : Int32) (I80 : cz_I) (L81 : cz_L), ls 0 = some (.ref a0) → ls 1 = some (.int v42) → ls 2 = some (.int v57) → ls 3 = some (.int v75) → St T cn K N d wi_X12_readAlp wr_X12_readAlp I0 R0 I80 R0 → RdI a0 I0 I80 → 0 ≤ v75.toInt → (-v75.toInt + 2147483647).toNat < fu → Tr X mX12_readAlp 48 ls [] cn K N I80 R0 L81 0 0 := by
      intro fu
      induction fu with
      | zero => intros; rename_i hz; exact absurd hz (Nat.not_lt_zero _)
      | succ fu ih85 =>
        intro ls v75 I80 L81 hl76 hl77 hl78 hl79 hS82 w83 g84 hm85
        refine tr_iload_n dX12_readAlp_48 hl79 ?_
        refine q_iconst dX12_readAlp_49 (by decide) ?_
        intro v87 h88
        refine q_icmp_ge 85 dX12_readAlp_50 (by decide) (fun h89 => ?_) (fun h89 => ?_)
        · skip
          refine tr_aload_n dX12_readAlp_85 hl76 ?_
          obtain ⟨v90, c91⟩ : ∃ v, I80 a0 9 = v := ⟨_, rfl⟩
          have b92 := iv15_9 hS82.1 ta0 c91
          refine q_getI dX12_readAlp_86 fl12_99 (kR15 hS82.1 ta0) c91 ?_
          refine q_iconst dX12_readAlp_89 (by decide) ?_
          intro v93 h94
          refine q_icmp_ne 94 dX12_readAlp_90 (by decide) (fun h95 => ?_) (fun h95 => ?_)
          · skip
            refine tr_aload_n dX12_readAlp_94 hl76 ?_
            refine tr_getR dX12_readAlp_95 fl12_188 (kR15 hS82.1 ta0) d2 ?_
            refine tr_iload_n dX12_readAlp_98 hl77 ?_
            refine q_putX dX12_readAlp_99 fl12_192 (kR14 hS82.1 ta1) (Or.inl rfl) hS82 ta1 (by decide +kernel) (hS82.1.putM ta1 (by omega)) ?_
            intro I96 hS97 e98 f99
            have c100 : I96 a0 9 = v90 := (f99 _ _ (fun q => absurd q.2 (by decide))).trans c91
            have w101 : RdI a0 I0 I96 := w83.keep (f99 _ _ (fun q => absurd q.2 (by decide))) (f99 _ _ (fun q => absurd q.2 (by decide))) (f99 _ _ (fun q => absurd q.2 (by decide))) (f99 _ _ (fun q => absurd q.2 (by decide)))
            have w102 : EwI a0 I80 I96 := (EwI.rf a0 I80).keep (f99 _ _ (fun q => absurd q.2 (by decide))) (f99 _ _ (fun q => absurd q.2 (by decide))) (f99 _ _ (fun q => absurd q.2 (by decide))) (f99 _ _ (fun q => absurd q.2 (by decide)))
            refine tr_aload_n dX12_readAlp_102 hl76 ?_
            refine tr_getR dX12_readAlp_103 fl12_188 (kR15 hS97.1 ta0) d2 ?_
            refine tr_iload_n dX12_readAlp_106 hl78 ?_
            refine q_putI dX12_readAlp_107 fl12_263 (kR14 hS97.1 ta1) (Or.inl rfl) hS97 ta1 (by show (0 : Int) ≤ v57.toInt ∧ v57.toInt ≤ (4 : Int); omega) rfl (by decide +kernel) ?_
            intro I103 hS104 e105 f106
            have c107 : I103 a0 9 = v90 := (f106 _ _ (fun q => absurd q.2 (by decide))).trans c100
            have c108 : I103 a1 0 = v42 := (f106 _ _ (fun q => absurd q.2 (by decide))).trans e98
            have w109 : RdI a0 I0 I103 := w101.keep (f106 _ _ (fun q => absurd q.2 (by decide))) (f106 _ _ (fun q => absurd q.2 (by decide))) (f106 _ _ (fun q => absurd q.2 (by decide))) (f106 _ _ (fun q => absurd q.2 (by decide)))
            have w110 : EwI a0 I80 I103 := w102.keep (f106 _ _ (fun q => absurd q.2 (by decide))) (f106 _ _ (fun q => absurd q.2 (by decide))) (f106 _ _ (fun q => absurd q.2 (by decide))) (f106 _ _ (fun q => absurd q.2 (by decide)))
            exact tr_vret hZ dX12_readAlp_110 rfl (by decide) (by decide) ⟨rfl, rfl, rfl, rfl, rfl, hS104, w109, trivial⟩
          · skip
            exact tr_vret hZ dX12_readAlp_93 rfl (by decide) (by decide) ⟨rfl, rfl, rfl, rfl, rfl, hS82, w83, trivial⟩
        · skip
          refine tr_iload_n dX12_readAlp_53 hl79 ?_
          refine q_if_le 63 dX12_readAlp_54 (by decide) (fun h111 => ?_) (fun h111 => ?_)
          · skip
            refine tr_aload_n dX12_readAlp_63 hl76 ?_
            refine tr_getR dX12_readAlp_64 fl12_188 (kR15 hS82.1 ta0) d2 ?_
            obtain ⟨a112, d113, ta112⟩ := rf14_10 hW0 ta1
            refine tr_getR dX12_readAlp_67 fl12_260 (kR14 hS82.1 ta1) d113 ?_
            refine tr_iload_n dX12_readAlp_70 hl79 ?_
            refine tr_aload_n dX12_readAlp_71 hl76 ?_
            refine q_iconst dX12_readAlp_72 (by decide) ?_
            intro v114 h115
            refine q_bipush dX12_readAlp_73 (by decide +kernel) ?_
            intro v116 h117
            refine q_callVi hE (M' := mX12_readWhole) (as := [_, _]) dX12_readAlp_75 lk12_161 inX12_readWhole seX12_readWhole myX12_readWhole (by decide) ⟨by decide, by decide⟩ rfl (kR15 hS82.1 ta0) (Nat.le_of_ble_eq_true rfl) rfl rfl (by decide) (by decide) (k_X12_readWhole hS82.1 ta0) ?_
            rintro v122 cn' K' N' I118 R119 L120 ⟨rfl, rfl, rfl, rfl, g121, p123, w124, -⟩
            have hS125 := hS82.tr g121 (by decide +kernel) (by decide +kernel)
            have w126 : RdI a0 I0 I118 := w83.rd w124
            have w127 : RdI a0 I80 I118 := (EwI.rf a0 I80).rd w124
            have b128 : 0 ≤ v122.toInt ∧ v122.toInt ≤ 99 := by omega
            clear p123
            refine q_iast dX12_readAlp_78 (kR53 hS125.1 ta112) (ti_in (nR53 hS125.1 ta112) (by omega) (by omega)) hS125 ta112 (iokF rfl) rfl (by rfl) ?_
            intro I129 hS130 e132 f131
            have w133 : RdI a0 I0 I129 := w126.keep (f131 _ _ (fun q => by have z := ta0; rw [q.1, ta112] at z; exact absurd z (by decide))) (f131 _ _ (fun q => by have z := ta0; rw [q.1, ta112] at z; exact absurd z (by decide))) (f131 _ _ (fun q => by have z := ta0; rw [q.1, ta112] at z; exact absurd z (by decide))) (f131 _ _ (fun q => by have z := ta0; rw [q.1, ta112] at z; exact absurd z (by decide)))
            have w134 : RdI a0 I80 I129 := w127.keep (f131 _ _ (fun q => by have z := ta0; rw [q.1, ta112] at z; exact absurd z (by decide))) (f131 _ _ (fun q => by have z := ta0; rw [q.1, ta112] at z; exact absurd z (by decide))) (f131 _ _ (fun q => by have z := ta0; rw [q.1, ta112] at z; exact absurd z (by decide))) (f131 _ _ (fun q => by have z := ta0; rw [q.1, ta112] at z; exact absurd z (by decide)))
            refine q_iincE dX12_readAlp_79 hl79 (by decide) (by decide) (by intros; omega) ?_
            intro v135 h136
            refine tr_goto 48 dX12_readAlp_82 (by decide) ?_
            exact ih85 _ v135 I129 L120 hl76 hl77 hl78 rfl hS130 w133 (by omega) (by omega)
          · skip
            refine tr_aload_n dX12_readAlp_57 hl76 ?_
            refine q_bipush dX12_readAlp_58 (by decide +kernel) ?_
            intro v137 h138
            refine q_callVv hE (M' := mX12_needsSign) (as := [_]) dX12_readAlp_60 lk12_257 inX12_needsSign seX12_needsSign myX12_needsSign (by decide) ⟨by decide, by decide⟩ rfl (kR15 hS82.1 ta0) (Nat.le_of_ble_eq_true rfl) rfl rfl (by decide) (by decide) (k_X12_needsSign hS82.1 ta0) ?_
            rintro cn' K' N' I139 R140 L141 ⟨rfl, rfl, rfl, rfl, g142, w144, -⟩
            have hS145 := hS82.tr g142 (by decide +kernel) (by decide +kernel)
            have w146 : RdI a0 I0 I139 := w83.rd w144
            have w147 : RdI a0 I80 I139 := (EwI.rf a0 I80).rd w144
            refine tr_aload_n dX12_readAlp_63 hl76 ?_
            refine tr_getR dX12_readAlp_64 fl12_188 (kR15 hS145.1 ta0) d2 ?_
            obtain ⟨a148, d149, ta148⟩ := rf14_10 hW0 ta1
            refine tr_getR dX12_readAlp_67 fl12_260 (kR14 hS145.1 ta1) d149 ?_
            refine tr_iload_n dX12_readAlp_70 hl79 ?_
            refine tr_aload_n dX12_readAlp_71 hl76 ?_
            refine q_iconst dX12_readAlp_72 (by decide) ?_
            intro v150 h151
            refine q_bipush dX12_readAlp_73 (by decide +kernel) ?_
            intro v152 h153
            refine q_callVi hE (M' := mX12_readWhole) (as := [_, _]) dX12_readAlp_75 lk12_161 inX12_readWhole seX12_readWhole myX12_readWhole (by decide) ⟨by decide, by decide⟩ rfl (kR15 hS145.1 ta0) (Nat.le_of_ble_eq_true rfl) rfl rfl (by decide) (by decide) (k_X12_readWhole hS145.1 ta0) ?_
            rintro v158 cn' K' N' I154 R155 L156 ⟨rfl, rfl, rfl, rfl, g157, p159, w160, -⟩
            have hS161 := hS145.tr g157 (by decide +kernel) (by decide +kernel)
            have w162 : RdI a0 I0 I154 := w146.rd w160
            have w163 : RdI a0 I80 I154 := w147.rd w160
            have b164 : 0 ≤ v158.toInt ∧ v158.toInt ≤ 99 := by omega
            clear p159
            refine q_iast dX12_readAlp_78 (kR53 hS161.1 ta148) (ti_in (nR53 hS161.1 ta148) (by omega) (by omega)) hS161 ta148 (iokF rfl) rfl (by rfl) ?_
            intro I165 hS166 e168 f167
            have w169 : RdI a0 I0 I165 := w162.keep (f167 _ _ (fun q => by have z := ta0; rw [q.1, ta148] at z; exact absurd z (by decide))) (f167 _ _ (fun q => by have z := ta0; rw [q.1, ta148] at z; exact absurd z (by decide))) (f167 _ _ (fun q => by have z := ta0; rw [q.1, ta148] at z; exact absurd z (by decide))) (f167 _ _ (fun q => by have z := ta0; rw [q.1, ta148] at z; exact absurd z (by decide)))
            have w170 : RdI a0 I80 I165 := w163.keep (f167 _ _ (fun q => by have z := ta0; rw [q.1, ta148] at z; exact absurd z (by decide))) (f167 _ _ (fun q => by have z := ta0; rw [q.1, ta148] at z; exact absurd z (by decide))) (f167 _ _ (fun q => by have z := ta0; rw [q.1, ta148] at z; exact absurd z (by decide))) (f167 _ _ (fun q => by have z := ta0; rw [q.1, ta148] at z; exact absurd z (by decide)))
            refine q_iincE dX12_readAlp_79 hl79 (by decide) (by decide) (by intros; omega) ?_
            intro v171 h172
            refine tr_goto 48 dX12_readAlp_82 (by decide) ?_
            exact ih85 _ v171 I165 L156 hl76 hl77 hl78 rfl hS166 w169 (by omega) (by omega)
    exact lp85 _ _ v73 I64 L66 rfl rfl rfl rfl hS70 w72 (by omega) (Nat.lt_succ_self _)
  · skip
    refine tr_aload_n dX12_readAlp_10 rfl ?_
    refine q_iconst dX12_readAlp_11 (by decide) ?_
    intro v173 h174
    obtain ⟨v175, c176⟩ : ∃ v, I0 a0 8 = v := ⟨_, rfl⟩
    have b177 := iv15_8 hS0.1 ta0 c176
    refine q_callVv hE (M' := mX12_flaw) (as := [_]) dX12_readAlp_12 lk12_145 inX12_flaw seX12_flaw myX12_flaw (by decide) ⟨by decide, by decide⟩ rfl (kR15 hS0.1 ta0) (Nat.le_of_ble_eq_true rfl) rfl rfl (by decide) (by decide) (k_X12_flaw hS0.1 ta0 (by omega)) ?_
    rintro cn' K' N' I178 R179 L180 ⟨rfl, rfl, rfl, rfl, rfl, g181, p183, p184, w185, -⟩
    have hS186 := hS0.tr g181 (by decide +kernel) (by decide +kernel)
    have c187 : I178 a1 0 = v3 := (g181.cell ta1 (by decide +kernel)).trans c4
    have c188 : I178 a0 8 = v175 := (g181.cell ta0 (by decide +kernel)).trans c176
    have w189 : RdI a0 I0 I178 := (EwI.rf a0 I0).rd w185
    obtain ⟨v190, c191⟩ : ∃ v, I178 a0 9 = v := ⟨_, rfl⟩
    have b192 := iv15_9 hS186.1 ta0 c191
    rw [c191] at p183
    rw [c188] at p184
    rw [c176] at p184
    refine tr_aload_n dX12_readAlp_15 rfl ?_
    obtain ⟨v193, c194⟩ : ∃ v, I178 a0 13 = v := ⟨_, rfl⟩
    refine q_callVv hE (M' := mX12_goesOn) (as := []) dX12_readAlp_16 lk12_142 inX12_goesOn seX12_goesOn myX12_goesOn (by decide) ⟨by decide, by decide⟩ rfl (kR15 hS186.1 ta0) (Nat.le_of_ble_eq_true rfl) rfl rfl (by decide) (by decide) (k_X12_goesOn hS186.1 ta0) ?_
    rintro cn' K' N' I195 R196 L197 ⟨rfl, rfl, rfl, rfl, g198, p200, p201, p202, w203, -⟩
    have hS204 := hS186.tr g198 (by decide +kernel) (by decide +kernel)
    have c205 : I195 a1 0 = v3 := (g198.cell ta1 (by decide +kernel)).trans c187
    have c206 : I195 a0 13 = v193 := (g198.cell ta0 (by decide +kernel)).trans c194
    have w207 : RdI a0 I0 I195 := w189.rd w203
    obtain ⟨v208, c209⟩ : ∃ v, I195 a0 9 = v := ⟨_, rfl⟩
    have b210 := iv15_9 hS204.1 ta0 c209
    rw [c191] at p200
    rw [c209] at p200
    rw [c191] at p201
    rw [c209] at p201
    obtain ⟨v211, c212⟩ : ∃ v, I195 a0 8 = v := ⟨_, rfl⟩
    have b213 := iv15_8 hS204.1 ta0 c212
    rw [c212] at p202
    rw [c188] at p202
    rw [c206] at p202
    rw [c194] at p202
    refine tr_aload_n dX12_readAlp_19 rfl ?_
    refine tr_ldcS dX12_readAlp_20 ld12_248 ?_
    refine q_bipush dX12_readAlp_22 (by decide +kernel) ?_
    intro v214 h215
    refine q_sipush dX12_readAlp_24 (by decide +kernel) ?_
    intro v216 h217
    refine q_callVi hE (M' := mX12_readPart) (as := [_, _, _]) dX12_readAlp_27 lk12_249 inX12_readPart seX12_readPart myX12_readPart (by decide) ⟨by decide, by decide⟩ rfl (kR15 hS204.1 ta0) (Nat.le_of_ble_eq_true rfl) rfl rfl (by decide) (by decide) (k_X12_readPart hS204.1 ta0 (by decide)) ?_
    rintro v222 cn' K' N' I218 R219 L220 ⟨rfl, rfl, rfl, rfl, g221, p223, w224, -⟩
    have hS225 := hS204.tr g221 (by decide +kernel) (by decide +kernel)
    have c226 : I218 a1 0 = v3 := (g221.cell ta1 (by decide +kernel)).trans c205
    have w227 : RdI a0 I0 I218 := w207.rd w224
    have b228 : 10 ≤ v222.toInt ∧ v222.toInt ≤ 240 := by omega
    clear p223
    refine tr_istore_n dX12_readAlp_30 (by decide) (by decide) ?_
    refine tr_aload_n dX12_readAlp_31 rfl ?_
    refine tr_ldcS dX12_readAlp_32 ld12_253 ?_
    refine q_iconst dX12_readAlp_34 (by decide) ?_
    intro v229 h230
    refine q_iconst dX12_readAlp_35 (by decide) ?_
    intro v231 h232
    refine q_callVi hE (M' := mX12_readPart) (as := [_, _, _]) dX12_readAlp_36 lk12_249 inX12_readPart seX12_readPart myX12_readPart (by decide) ⟨by decide, by decide⟩ rfl (kR15 hS225.1 ta0) (Nat.le_of_ble_eq_true rfl) rfl rfl (by decide) (by decide) (k_X12_readPart hS225.1 ta0 (by decide)) ?_
    rintro v237 cn' K' N' I233 R234 L235 ⟨rfl, rfl, rfl, rfl, g236, p238, w239, -⟩
    have hS240 := hS225.tr g236 (by decide +kernel) (by decide +kernel)
    have c241 : I233 a1 0 = v3 := (g236.cell ta1 (by decide +kernel)).trans c226
    have w242 : RdI a0 I0 I233 := w227.rd w239
    have b243 : 1 ≤ v237.toInt ∧ v237.toInt ≤ 4 := by omega
    clear p238
    refine tr_istore_n dX12_readAlp_39 (by decide) (by decide) ?_
    refine tr_aload_n dX12_readAlp_40 rfl ?_
    refine tr_ldcS dX12_readAlp_41 ld12_255 ?_
    refine q_callVv hE (M' := mX12_needs) (as := [_]) dX12_readAlp_43 lk12_157 inX12_needs seX12_needs myX12_needs (by decide) ⟨by decide, by decide⟩ rfl (kR15 hS240.1 ta0) (Nat.le_of_ble_eq_true rfl) rfl rfl (by decide) (by decide) (k_X12_needs hS240.1 ta0 (by decide)) ?_
    rintro cn' K' N' I244 R245 L246 ⟨rfl, rfl, rfl, rfl, g247, w249, -⟩
    have hS250 := hS240.tr g247 (by decide +kernel) (by decide +kernel)
    have c251 : I244 a1 0 = v3 := (g247.cell ta1 (by decide +kernel)).trans c241
    have w252 : RdI a0 I0 I244 := w242.rd w249
    refine q_iconst dX12_readAlp_46 (by decide) ?_
    intro v253 h254
    refine tr_istore_n dX12_readAlp_47 (by decide) (by decide) ?_
    have lp265 : ∀ (fu : Nat) (ls : Nat → Option Value) (v255 : Int32) (I260 : cz_I) (L261 : cz_L), ls 0 = some (.ref a0) → ls 1 = some (.int v222) → ls 2 = some (.int v237) → ls 3 = some (.int v255) → St T cn K N d wi_X12_readAlp wr_X12_readAlp I0 R0 I260 R0 → RdI a0 I0 I260 → 0 ≤ v255.toInt → (-v255.toInt + 2147483647).toNat < fu → Tr X mX12_readAlp 48 ls [] cn K N I260 R0 L261 0 0 := by
      intro fu
      induction fu with
      | zero => intros; rename_i hz; exact absurd hz (Nat.not_lt_zero _)
      | succ fu ih265 =>
        intro ls v255 I260 L261 hl256 hl257 hl258 hl259 hS262 w263 g264 hm265
        refine tr_iload_n dX12_readAlp_48 hl259 ?_
        refine q_iconst dX12_readAlp_49 (by decide) ?_
        intro v267 h268
        refine q_icmp_ge 85 dX12_readAlp_50 (by decide) (fun h269 => ?_) (fun h269 => ?_)
        · skip
          refine tr_aload_n dX12_readAlp_85 hl256 ?_
          obtain ⟨v270, c271⟩ : ∃ v, I260 a0 9 = v := ⟨_, rfl⟩
          have b272 := iv15_9 hS262.1 ta0 c271
          refine q_getI dX12_readAlp_86 fl12_99 (kR15 hS262.1 ta0) c271 ?_
          refine q_iconst dX12_readAlp_89 (by decide) ?_
          intro v273 h274
          refine q_icmp_ne 94 dX12_readAlp_90 (by decide) (fun h275 => ?_) (fun h275 => ?_)
          · skip
            refine tr_aload_n dX12_readAlp_94 hl256 ?_
            refine tr_getR dX12_readAlp_95 fl12_188 (kR15 hS262.1 ta0) d2 ?_
            refine tr_iload_n dX12_readAlp_98 hl257 ?_
            refine q_putX dX12_readAlp_99 fl12_192 (kR14 hS262.1 ta1) (Or.inl rfl) hS262 ta1 (by decide +kernel) (hS262.1.putM ta1 (by omega)) ?_
            intro I276 hS277 e278 f279
            have c280 : I276 a0 9 = v270 := (f279 _ _ (fun q => absurd q.2 (by decide))).trans c271
            have w281 : RdI a0 I0 I276 := w263.keep (f279 _ _ (fun q => absurd q.2 (by decide))) (f279 _ _ (fun q => absurd q.2 (by decide))) (f279 _ _ (fun q => absurd q.2 (by decide))) (f279 _ _ (fun q => absurd q.2 (by decide)))
            have w282 : EwI a0 I260 I276 := (EwI.rf a0 I260).keep (f279 _ _ (fun q => absurd q.2 (by decide))) (f279 _ _ (fun q => absurd q.2 (by decide))) (f279 _ _ (fun q => absurd q.2 (by decide))) (f279 _ _ (fun q => absurd q.2 (by decide)))
            refine tr_aload_n dX12_readAlp_102 hl256 ?_
            refine tr_getR dX12_readAlp_103 fl12_188 (kR15 hS277.1 ta0) d2 ?_
            refine tr_iload_n dX12_readAlp_106 hl258 ?_
            refine q_putI dX12_readAlp_107 fl12_263 (kR14 hS277.1 ta1) (Or.inl rfl) hS277 ta1 (by show (0 : Int) ≤ v237.toInt ∧ v237.toInt ≤ (4 : Int); omega) rfl (by decide +kernel) ?_
            intro I283 hS284 e285 f286
            have c287 : I283 a0 9 = v270 := (f286 _ _ (fun q => absurd q.2 (by decide))).trans c280
            have c288 : I283 a1 0 = v222 := (f286 _ _ (fun q => absurd q.2 (by decide))).trans e278
            have w289 : RdI a0 I0 I283 := w281.keep (f286 _ _ (fun q => absurd q.2 (by decide))) (f286 _ _ (fun q => absurd q.2 (by decide))) (f286 _ _ (fun q => absurd q.2 (by decide))) (f286 _ _ (fun q => absurd q.2 (by decide)))
            have w290 : EwI a0 I260 I283 := w282.keep (f286 _ _ (fun q => absurd q.2 (by decide))) (f286 _ _ (fun q => absurd q.2 (by decide))) (f286 _ _ (fun q => absurd q.2 (by decide))) (f286 _ _ (fun q => absurd q.2 (by decide)))
            exact tr_vret hZ dX12_readAlp_110 rfl (by decide) (by decide) ⟨rfl, rfl, rfl, rfl, rfl, hS284, w289, trivial⟩
          · skip
            exact tr_vret hZ dX12_readAlp_93 rfl (by decide) (by decide) ⟨rfl, rfl, rfl, rfl, rfl, hS262, w263, trivial⟩
        · skip
          refine tr_iload_n dX12_readAlp_53 hl259 ?_
          refine q_if_le 63 dX12_readAlp_54 (by decide) (fun h291 => ?_) (fun h291 => ?_)
          · skip
            refine tr_aload_n dX12_readAlp_63 hl256 ?_
            refine tr_getR dX12_readAlp_64 fl12_188 (kR15 hS262.1 ta0) d2 ?_
            obtain ⟨a292, d293, ta292⟩ := rf14_10 hW0 ta1
            refine tr_getR dX12_readAlp_67 fl12_260 (kR14 hS262.1 ta1) d293 ?_
            refine tr_iload_n dX12_readAlp_70 hl259 ?_
            refine tr_aload_n dX12_readAlp_71 hl256 ?_
            refine q_iconst dX12_readAlp_72 (by decide) ?_
            intro v294 h295
            refine q_bipush dX12_readAlp_73 (by decide +kernel) ?_
            intro v296 h297
            refine q_callVi hE (M' := mX12_readWhole) (as := [_, _]) dX12_readAlp_75 lk12_161 inX12_readWhole seX12_readWhole myX12_readWhole (by decide) ⟨by decide, by decide⟩ rfl (kR15 hS262.1 ta0) (Nat.le_of_ble_eq_true rfl) rfl rfl (by decide) (by decide) (k_X12_readWhole hS262.1 ta0) ?_
            rintro v302 cn' K' N' I298 R299 L300 ⟨rfl, rfl, rfl, rfl, g301, p303, w304, -⟩
            have hS305 := hS262.tr g301 (by decide +kernel) (by decide +kernel)
            have w306 : RdI a0 I0 I298 := w263.rd w304
            have w307 : RdI a0 I260 I298 := (EwI.rf a0 I260).rd w304
            have b308 : 0 ≤ v302.toInt ∧ v302.toInt ≤ 99 := by omega
            clear p303
            refine q_iast dX12_readAlp_78 (kR53 hS305.1 ta292) (ti_in (nR53 hS305.1 ta292) (by omega) (by omega)) hS305 ta292 (iokF rfl) rfl (by rfl) ?_
            intro I309 hS310 e312 f311
            have w313 : RdI a0 I0 I309 := w306.keep (f311 _ _ (fun q => by have z := ta0; rw [q.1, ta292] at z; exact absurd z (by decide))) (f311 _ _ (fun q => by have z := ta0; rw [q.1, ta292] at z; exact absurd z (by decide))) (f311 _ _ (fun q => by have z := ta0; rw [q.1, ta292] at z; exact absurd z (by decide))) (f311 _ _ (fun q => by have z := ta0; rw [q.1, ta292] at z; exact absurd z (by decide)))
            have w314 : RdI a0 I260 I309 := w307.keep (f311 _ _ (fun q => by have z := ta0; rw [q.1, ta292] at z; exact absurd z (by decide))) (f311 _ _ (fun q => by have z := ta0; rw [q.1, ta292] at z; exact absurd z (by decide))) (f311 _ _ (fun q => by have z := ta0; rw [q.1, ta292] at z; exact absurd z (by decide))) (f311 _ _ (fun q => by have z := ta0; rw [q.1, ta292] at z; exact absurd z (by decide)))
            refine q_iincE dX12_readAlp_79 hl259 (by decide) (by decide) (by intros; omega) ?_
            intro v315 h316
            refine tr_goto 48 dX12_readAlp_82 (by decide) ?_
            exact ih265 _ v315 I309 L300 hl256 hl257 hl258 rfl hS310 w313 (by omega) (by omega)
          · skip
            refine tr_aload_n dX12_readAlp_57 hl256 ?_
            refine q_bipush dX12_readAlp_58 (by decide +kernel) ?_
            intro v317 h318
            refine q_callVv hE (M' := mX12_needsSign) (as := [_]) dX12_readAlp_60 lk12_257 inX12_needsSign seX12_needsSign myX12_needsSign (by decide) ⟨by decide, by decide⟩ rfl (kR15 hS262.1 ta0) (Nat.le_of_ble_eq_true rfl) rfl rfl (by decide) (by decide) (k_X12_needsSign hS262.1 ta0) ?_
            rintro cn' K' N' I319 R320 L321 ⟨rfl, rfl, rfl, rfl, g322, w324, -⟩
            have hS325 := hS262.tr g322 (by decide +kernel) (by decide +kernel)
            have w326 : RdI a0 I0 I319 := w263.rd w324
            have w327 : RdI a0 I260 I319 := (EwI.rf a0 I260).rd w324
            refine tr_aload_n dX12_readAlp_63 hl256 ?_
            refine tr_getR dX12_readAlp_64 fl12_188 (kR15 hS325.1 ta0) d2 ?_
            obtain ⟨a328, d329, ta328⟩ := rf14_10 hW0 ta1
            refine tr_getR dX12_readAlp_67 fl12_260 (kR14 hS325.1 ta1) d329 ?_
            refine tr_iload_n dX12_readAlp_70 hl259 ?_
            refine tr_aload_n dX12_readAlp_71 hl256 ?_
            refine q_iconst dX12_readAlp_72 (by decide) ?_
            intro v330 h331
            refine q_bipush dX12_readAlp_73 (by decide +kernel) ?_
            intro v332 h333
            refine q_callVi hE (M' := mX12_readWhole) (as := [_, _]) dX12_readAlp_75 lk12_161 inX12_readWhole seX12_readWhole myX12_readWhole (by decide) ⟨by decide, by decide⟩ rfl (kR15 hS325.1 ta0) (Nat.le_of_ble_eq_true rfl) rfl rfl (by decide) (by decide) (k_X12_readWhole hS325.1 ta0) ?_
            rintro v338 cn' K' N' I334 R335 L336 ⟨rfl, rfl, rfl, rfl, g337, p339, w340, -⟩
            have hS341 := hS325.tr g337 (by decide +kernel) (by decide +kernel)
            have w342 : RdI a0 I0 I334 := w326.rd w340
            have w343 : RdI a0 I260 I334 := w327.rd w340
            have b344 : 0 ≤ v338.toInt ∧ v338.toInt ≤ 99 := by omega
            clear p339
            refine q_iast dX12_readAlp_78 (kR53 hS341.1 ta328) (ti_in (nR53 hS341.1 ta328) (by omega) (by omega)) hS341 ta328 (iokF rfl) rfl (by rfl) ?_
            intro I345 hS346 e348 f347
            have w349 : RdI a0 I0 I345 := w342.keep (f347 _ _ (fun q => by have z := ta0; rw [q.1, ta328] at z; exact absurd z (by decide))) (f347 _ _ (fun q => by have z := ta0; rw [q.1, ta328] at z; exact absurd z (by decide))) (f347 _ _ (fun q => by have z := ta0; rw [q.1, ta328] at z; exact absurd z (by decide))) (f347 _ _ (fun q => by have z := ta0; rw [q.1, ta328] at z; exact absurd z (by decide)))
            have w350 : RdI a0 I260 I345 := w343.keep (f347 _ _ (fun q => by have z := ta0; rw [q.1, ta328] at z; exact absurd z (by decide))) (f347 _ _ (fun q => by have z := ta0; rw [q.1, ta328] at z; exact absurd z (by decide))) (f347 _ _ (fun q => by have z := ta0; rw [q.1, ta328] at z; exact absurd z (by decide))) (f347 _ _ (fun q => by have z := ta0; rw [q.1, ta328] at z; exact absurd z (by decide)))
            refine q_iincE dX12_readAlp_79 hl259 (by decide) (by decide) (by intros; omega) ?_
            intro v351 h352
            refine tr_goto 48 dX12_readAlp_82 (by decide) ?_
            exact ih265 _ v351 I345 L336 hl256 hl257 hl258 rfl hS346 w349 (by omega) (by omega)
    exact lp265 _ _ v253 I244 L246 rfl rfl rfl rfl hS250 w252 (by omega) (Nat.lt_succ_self _)
def wi_X12_readLine : List Nat := [896, 897, 898, 899, 900, 901, 902, 903, 904, 905, 968, 969, 970, 971, 972, 973, 974, 3455, 3519, 3583, 3647, 3711, 3775, 3839, 3903, 3967, 4031, 4095, 4159, 4223, 4287, 4351, 4415, 4479, 4543, 4607, 4671, 4799, 4863]
def wr_X12_readLine : List Nat := []
set_option maxHeartbeats 4000000 in
theorem k_X12_readLine {l : Launch} {T : Nat → Nat} {cn : Nat} {K N : Nat → Nat} {I0 : cz_I} {R0 : cz_R} {L0 : cz_L} (hW0 : Wf T cn K N I0 R0 0) {a0 : Nat} (ta0 : T a0 = 15) (nn4 : ∃ b, R0 a0 4 = some b) : ConE l mX12_readLine [.ref a0] cn K N I0 R0 L0 (ca_v (fun cn' K' N' I' R' L' => cn = cn' ∧ K = K' ∧ N = N' ∧ R0 = R' ∧ St T cn K N 0 wi_X12_readLine wr_X12_readLine I0 R0 I' R0 ∧ RdI a0 I0 I' ∧ True)) := by
  refine ConE.of (by decide +kernel) rfl (Nat.le_of_ble_eq_true rfl) rfl (fun X hX hZ hE => ?_)
  subst hX
  have hS0 : St T cn K N 0 wi_X12_readLine wr_X12_readLine I0 R0 I0 R0 := St.rf0 hW0
  obtain ⟨a1, d2⟩ := nn4
  have ta1 : T a1 = 14 := hW0.rsN ta0 rfl d2
  refine tr_aload_n dX12_readLine_0 rfl ?_
  refine tr_ldcS dX12_readLine_1 ld12_164 ?_
  obtain ⟨v3, c4⟩ : ∃ v, I0 a0 9 = v := ⟨_, rfl⟩
  have b5 := iv15_9 hS0.1 ta0 c4
  refine q_callVi hE (M' := mX12_isWord) (as := [_]) dX12_readLine_3 lk12_138 inX12_isWord seX12_isWord myX12_isWord (by decide) ⟨by decide, by decide⟩ rfl (kR15 hS0.1 ta0) (Nat.le_of_ble_eq_true rfl) rfl rfl (by decide) (by decide) (k_X12_isWord hS0.1 ta0 (by decide)) ?_
  rintro v10 cn' K' N' I6 R7 L8 ⟨rfl, rfl, rfl, rfl, rfl, rfl, h11, p12, -⟩
  rw [c4] at p12
  refine q_if_eq 16 dX12_readLine_6 (by decide) (fun h13 => ?_) (fun h13 => ?_)
  · skip
    refine tr_aload_n dX12_readLine_16 rfl ?_
    refine tr_ldcS dX12_readLine_17 ld12_166 ?_
    refine q_callVi hE (M' := mX12_isWord) (as := [_]) dX12_readLine_19 lk12_138 inX12_isWord seX12_isWord myX12_isWord (by decide) ⟨by decide, by decide⟩ rfl (kR15 hS0.1 ta0) (Nat.le_of_ble_eq_true rfl) rfl rfl (by decide) (by decide) (k_X12_isWord hS0.1 ta0 (by decide)) ?_
    rintro v18 cn' K' N' I14 R15 L16 ⟨rfl, rfl, rfl, rfl, rfl, rfl, h19, p20, -⟩
    rw [c4] at p20
    refine q_if_eq 33 dX12_readLine_22 (by decide) (fun h21 => ?_) (fun h21 => ?_)
    · skip
      refine tr_aload_n dX12_readLine_33 rfl ?_
      refine tr_ldcS dX12_readLine_34 ld12_168 ?_
      refine q_callVi hE (M' := mX12_isWord) (as := [_]) dX12_readLine_36 lk12_138 inX12_isWord seX12_isWord myX12_isWord (by decide) ⟨by decide, by decide⟩ rfl (kR15 hS0.1 ta0) (Nat.le_of_ble_eq_true rfl) rfl rfl (by decide) (by decide) (k_X12_isWord hS0.1 ta0 (by decide)) ?_
      rintro v26 cn' K' N' I22 R23 L24 ⟨rfl, rfl, rfl, rfl, rfl, rfl, h27, p28, -⟩
      rw [c4] at p28
      refine q_if_eq 50 dX12_readLine_39 (by decide) (fun h29 => ?_) (fun h29 => ?_)
      · skip
        refine tr_aload_n dX12_readLine_50 rfl ?_
        refine tr_ldcS dX12_readLine_51 ld12_170 ?_
        refine q_callVi hE (M' := mX12_isWord) (as := [_]) dX12_readLine_53 lk12_138 inX12_isWord seX12_isWord myX12_isWord (by decide) ⟨by decide, by decide⟩ rfl (kR15 hS0.1 ta0) (Nat.le_of_ble_eq_true rfl) rfl rfl (by decide) (by decide) (k_X12_isWord hS0.1 ta0 (by decide)) ?_
        rintro v34 cn' K' N' I30 R31 L32 ⟨rfl, rfl, rfl, rfl, rfl, rfl, h35, p36, -⟩
        rw [c4] at p36
        refine q_if_eq 67 dX12_readLine_56 (by decide) (fun h37 => ?_) (fun h37 => ?_)
        · skip
          refine tr_aload_n dX12_readLine_67 rfl ?_
          refine tr_ldcS dX12_readLine_68 ld12_172 ?_
          refine q_callVi hE (M' := mX12_isWord) (as := [_]) dX12_readLine_70 lk12_138 inX12_isWord seX12_isWord myX12_isWord (by decide) ⟨by decide, by decide⟩ rfl (kR15 hS0.1 ta0) (Nat.le_of_ble_eq_true rfl) rfl rfl (by decide) (by decide) (k_X12_isWord hS0.1 ta0 (by decide)) ?_
          rintro v42 cn' K' N' I38 R39 L40 ⟨rfl, rfl, rfl, rfl, rfl, rfl, h43, p44, -⟩
          rw [c4] at p44
          refine q_if_eq 84 dX12_readLine_73 (by decide) (fun h45 => ?_) (fun h45 => ?_)
          · skip
            refine tr_aload_n dX12_readLine_84 rfl ?_
            refine tr_ldcS dX12_readLine_85 ld12_174 ?_
            refine q_callVi hE (M' := mX12_isWord) (as := [_]) dX12_readLine_87 lk12_138 inX12_isWord seX12_isWord myX12_isWord (by decide) ⟨by decide, by decide⟩ rfl (kR15 hS0.1 ta0) (Nat.le_of_ble_eq_true rfl) rfl rfl (by decide) (by decide) (k_X12_isWord hS0.1 ta0 (by decide)) ?_
            rintro v50 cn' K' N' I46 R47 L48 ⟨rfl, rfl, rfl, rfl, rfl, rfl, h51, p52, -⟩
            rw [c4] at p52
            refine q_if_eq 101 dX12_readLine_90 (by decide) (fun h53 => ?_) (fun h53 => ?_)
            · skip
              refine tr_aload_n dX12_readLine_101 rfl ?_
              refine tr_ldcS dX12_readLine_102 ld12_176 ?_
              refine q_callVi hE (M' := mX12_isWord) (as := [_]) dX12_readLine_104 lk12_138 inX12_isWord seX12_isWord myX12_isWord (by decide) ⟨by decide, by decide⟩ rfl (kR15 hS0.1 ta0) (Nat.le_of_ble_eq_true rfl) rfl rfl (by decide) (by decide) (k_X12_isWord hS0.1 ta0 (by decide)) ?_
              rintro v58 cn' K' N' I54 R55 L56 ⟨rfl, rfl, rfl, rfl, rfl, rfl, h59, p60, -⟩
              rw [c4] at p60
              refine q_if_eq 117 dX12_readLine_107 (by decide) (fun h61 => ?_) (fun h61 => ?_)
              · skip
                refine tr_aload_n dX12_readLine_117 rfl ?_
                refine tr_ldcS dX12_readLine_118 ld12_178 ?_
                refine q_callVi hE (M' := mX12_isWord) (as := [_]) dX12_readLine_120 lk12_138 inX12_isWord seX12_isWord myX12_isWord (by decide) ⟨by decide, by decide⟩ rfl (kR15 hS0.1 ta0) (Nat.le_of_ble_eq_true rfl) rfl rfl (by decide) (by decide) (k_X12_isWord hS0.1 ta0 (by decide)) ?_
                rintro v66 cn' K' N' I62 R63 L64 ⟨rfl, rfl, rfl, rfl, rfl, rfl, h67, p68, -⟩
                rw [c4] at p68
                refine q_if_eq 133 dX12_readLine_123 (by decide) (fun h69 => ?_) (fun h69 => ?_)
                · skip
                  refine tr_aload_n dX12_readLine_133 rfl ?_
                  refine tr_ldcS dX12_readLine_134 ld12_180 ?_
                  refine q_callVi hE (M' := mX12_isWord) (as := [_]) dX12_readLine_136 lk12_138 inX12_isWord seX12_isWord myX12_isWord (by decide) ⟨by decide, by decide⟩ rfl (kR15 hS0.1 ta0) (Nat.le_of_ble_eq_true rfl) rfl rfl (by decide) (by decide) (k_X12_isWord hS0.1 ta0 (by decide)) ?_
                  rintro v74 cn' K' N' I70 R71 L72 ⟨rfl, rfl, rfl, rfl, rfl, rfl, h75, p76, -⟩
                  rw [c4] at p76
                  refine q_if_eq 149 dX12_readLine_139 (by decide) (fun h77 => ?_) (fun h77 => ?_)
                  · skip
                    refine tr_aload_n dX12_readLine_149 rfl ?_
                    refine tr_ldcS dX12_readLine_150 ld12_182 ?_
                    refine q_callVi hE (M' := mX12_isWord) (as := [_]) dX12_readLine_152 lk12_138 inX12_isWord seX12_isWord myX12_isWord (by decide) ⟨by decide, by decide⟩ rfl (kR15 hS0.1 ta0) (Nat.le_of_ble_eq_true rfl) rfl rfl (by decide) (by decide) (k_X12_isWord hS0.1 ta0 (by decide)) ?_
                    rintro v82 cn' K' N' I78 R79 L80 ⟨rfl, rfl, rfl, rfl, rfl, rfl, h83, p84, -⟩
                    rw [c4] at p84
                    refine q_if_eq 165 dX12_readLine_155 (by decide) (fun h85 => ?_) (fun h85 => ?_)
                    · skip
                      refine tr_aload_n dX12_readLine_165 rfl ?_
                      refine tr_ldcS dX12_readLine_166 ld12_184 ?_
                      refine q_callVi hE (M' := mX12_isWord) (as := [_]) dX12_readLine_168 lk12_138 inX12_isWord seX12_isWord myX12_isWord (by decide) ⟨by decide, by decide⟩ rfl (kR15 hS0.1 ta0) (Nat.le_of_ble_eq_true rfl) rfl rfl (by decide) (by decide) (k_X12_isWord hS0.1 ta0 (by decide)) ?_
                      rintro v90 cn' K' N' I86 R87 L88 ⟨rfl, rfl, rfl, rfl, rfl, rfl, h91, p92, -⟩
                      rw [c4] at p92
                      refine q_if_eq 181 dX12_readLine_171 (by decide) (fun h93 => ?_) (fun h93 => ?_)
                      · skip
                        refine tr_aload_n dX12_readLine_181 rfl ?_
                        refine q_iconst dX12_readLine_182 (by decide) ?_
                        intro v94 h95
                        obtain ⟨v96, c97⟩ : ∃ v, I0 a0 8 = v := ⟨_, rfl⟩
                        have b98 := iv15_8 hS0.1 ta0 c97
                        refine q_callVv hE (M' := mX12_flaw) (as := [_]) dX12_readLine_183 lk12_145 inX12_flaw seX12_flaw myX12_flaw (by decide) ⟨by decide, by decide⟩ rfl (kR15 hS0.1 ta0) (Nat.le_of_ble_eq_true rfl) rfl rfl (by decide) (by decide) (k_X12_flaw hS0.1 ta0 (by omega)) ?_
                        rintro cn' K' N' I99 R100 L101 ⟨rfl, rfl, rfl, rfl, rfl, g102, p104, p105, w106, -⟩
                        have hS107 := hS0.tr g102 (by decide +kernel) (by decide +kernel)
                        have c108 : I99 a0 8 = v96 := (g102.cell ta0 (by decide +kernel)).trans c97
                        have w109 : RdI a0 I0 I99 := (EwI.rf a0 I0).rd w106
                        obtain ⟨v110, c111⟩ : ∃ v, I99 a0 9 = v := ⟨_, rfl⟩
                        have b112 := iv15_9 hS107.1 ta0 c111
                        rw [c111] at p104
                        rw [c108] at p105
                        rw [c97] at p105
                        exact tr_vret hZ dX12_readLine_186 rfl (by decide) (by decide) ⟨rfl, rfl, rfl, rfl, rfl, hS107, w109, trivial⟩
                      · skip
                        refine tr_aload_n dX12_readLine_174 rfl ?_
                        refine q_callVv hE (M' := mX12_readSlice) (as := []) dX12_readLine_175 lk12_245 inX12_readSlice seX12_readSlice myX12_readSlice (by decide) ⟨by decide, by decide⟩ rfl (kR15 hS0.1 ta0) (Nat.le_of_ble_eq_true rfl) rfl rfl (by decide) (by decide) (k_X12_readSlice hS0.1 ta0 ⟨_, d2⟩) ?_
                        rintro cn' K' N' I113 R114 L115 ⟨rfl, rfl, rfl, rfl, g116, w118, -⟩
                        have hS119 := hS0.tr g116 (by decide +kernel) (by decide +kernel)
                        have w120 : RdI a0 I0 I113 := (EwI.rf a0 I0).rd w118
                        refine tr_goto 186 dX12_readLine_178 (by decide) ?_
                        exact tr_vret hZ dX12_readLine_186 rfl (by decide) (by decide) ⟨rfl, rfl, rfl, rfl, rfl, hS119, w120, trivial⟩
                    · skip
                      refine tr_aload_n dX12_readLine_158 rfl ?_
                      refine q_callVv hE (M' := mX12_readCall) (as := []) dX12_readLine_159 lk12_242 inX12_readCall seX12_readCall myX12_readCall (by decide) ⟨by decide, by decide⟩ rfl (kR15 hS0.1 ta0) (Nat.le_of_ble_eq_true rfl) rfl rfl (by decide) (by decide) (k_X12_readCall hS0.1 ta0 ⟨_, d2⟩) ?_
                      rintro cn' K' N' I121 R122 L123 ⟨rfl, rfl, rfl, rfl, g124, w126, -⟩
                      have hS127 := hS0.tr g124 (by decide +kernel) (by decide +kernel)
                      have w128 : RdI a0 I0 I121 := (EwI.rf a0 I0).rd w126
                      refine tr_goto 186 dX12_readLine_162 (by decide) ?_
                      exact tr_vret hZ dX12_readLine_186 rfl (by decide) (by decide) ⟨rfl, rfl, rfl, rfl, rfl, hS127, w128, trivial⟩
                  · skip
                    refine tr_aload_n dX12_readLine_142 rfl ?_
                    refine q_callVv hE (M' := mX12_readTurner) (as := []) dX12_readLine_143 lk12_239 inX12_readTurner seX12_readTurner myX12_readTurner (by decide) ⟨by decide, by decide⟩ rfl (kR15 hS0.1 ta0) (Nat.le_of_ble_eq_true rfl) rfl rfl (by decide) (by decide) (k_X12_readTurner hS0.1 ta0 ⟨_, d2⟩) ?_
                    rintro cn' K' N' I129 R130 L131 ⟨rfl, rfl, rfl, rfl, g132, w134, -⟩
                    have hS135 := hS0.tr g132 (by decide +kernel) (by decide +kernel)
                    have w136 : RdI a0 I0 I129 := (EwI.rf a0 I0).rd w134
                    refine tr_goto 186 dX12_readLine_146 (by decide) ?_
                    exact tr_vret hZ dX12_readLine_186 rfl (by decide) (by decide) ⟨rfl, rfl, rfl, rfl, rfl, hS135, w136, trivial⟩
                · skip
                  refine tr_aload_n dX12_readLine_126 rfl ?_
                  refine q_callVv hE (M' := mX12_readAlmanac) (as := []) dX12_readLine_127 lk12_236 inX12_readAlmanac seX12_readAlmanac myX12_readAlmanac (by decide) ⟨by decide, by decide⟩ rfl (kR15 hS0.1 ta0) (Nat.le_of_ble_eq_true rfl) rfl rfl (by decide) (by decide) (k_X12_readAlmanac hS0.1 ta0 ⟨_, d2⟩) ?_
                  rintro cn' K' N' I137 R138 L139 ⟨rfl, rfl, rfl, rfl, g140, w142, -⟩
                  have hS143 := hS0.tr g140 (by decide +kernel) (by decide +kernel)
                  have w144 : RdI a0 I0 I137 := (EwI.rf a0 I0).rd w142
                  refine tr_goto 186 dX12_readLine_130 (by decide) ?_
                  exact tr_vret hZ dX12_readLine_186 rfl (by decide) (by decide) ⟨rfl, rfl, rfl, rfl, rfl, hS143, w144, trivial⟩
              · skip
                refine tr_aload_n dX12_readLine_110 rfl ?_
                refine q_callVv hE (M' := mX12_readCheese) (as := []) dX12_readLine_111 lk12_233 inX12_readCheese seX12_readCheese myX12_readCheese (by decide) ⟨by decide, by decide⟩ rfl (kR15 hS0.1 ta0) (Nat.le_of_ble_eq_true rfl) rfl rfl (by decide) (by decide) (k_X12_readCheese hS0.1 ta0 ⟨_, d2⟩) ?_
                rintro cn' K' N' I145 R146 L147 ⟨rfl, rfl, rfl, rfl, g148, w150, -⟩
                have hS151 := hS0.tr g148 (by decide +kernel) (by decide +kernel)
                have w152 : RdI a0 I0 I145 := (EwI.rf a0 I0).rd w150
                refine tr_goto 186 dX12_readLine_114 (by decide) ?_
                exact tr_vret hZ dX12_readLine_186 rfl (by decide) (by decide) ⟨rfl, rfl, rfl, rfl, rfl, hS151, w152, trivial⟩
            · skip
              refine tr_aload_n dX12_readLine_93 rfl ?_
              refine q_iconst dX12_readLine_94 (by decide) ?_
              intro v153 h154
              refine q_callVv hE (M' := mX12_readEvent) (as := [_]) dX12_readLine_95 lk12_230 inX12_readEvent seX12_readEvent myX12_readEvent (by decide) ⟨by decide, by decide⟩ rfl (kR15 hS0.1 ta0) (Nat.le_of_ble_eq_true rfl) rfl rfl (by decide) (by decide) (k_X12_readEvent hS0.1 ta0 (by omega) ⟨_, d2⟩) ?_
              rintro cn' K' N' I155 R156 L157 ⟨rfl, rfl, rfl, rfl, g158, w160, -⟩
              have hS161 := hS0.tr g158 (by decide +kernel) (by decide +kernel)
              have w162 : RdI a0 I0 I155 := (EwI.rf a0 I0).rd w160
              refine tr_goto 186 dX12_readLine_98 (by decide) ?_
              exact tr_vret hZ dX12_readLine_186 rfl (by decide) (by decide) ⟨rfl, rfl, rfl, rfl, rfl, hS161, w162, trivial⟩
          · skip
            refine tr_aload_n dX12_readLine_76 rfl ?_
            refine q_iconst dX12_readLine_77 (by decide) ?_
            intro v163 h164
            refine q_callVv hE (M' := mX12_readEvent) (as := [_]) dX12_readLine_78 lk12_230 inX12_readEvent seX12_readEvent myX12_readEvent (by decide) ⟨by decide, by decide⟩ rfl (kR15 hS0.1 ta0) (Nat.le_of_ble_eq_true rfl) rfl rfl (by decide) (by decide) (k_X12_readEvent hS0.1 ta0 (by omega) ⟨_, d2⟩) ?_
            rintro cn' K' N' I165 R166 L167 ⟨rfl, rfl, rfl, rfl, g168, w170, -⟩
            have hS171 := hS0.tr g168 (by decide +kernel) (by decide +kernel)
            have w172 : RdI a0 I0 I165 := (EwI.rf a0 I0).rd w170
            refine tr_goto 186 dX12_readLine_81 (by decide) ?_
            exact tr_vret hZ dX12_readLine_186 rfl (by decide) (by decide) ⟨rfl, rfl, rfl, rfl, rfl, hS171, w172, trivial⟩
        · skip
          refine tr_aload_n dX12_readLine_59 rfl ?_
          refine q_iconst dX12_readLine_60 (by decide) ?_
          intro v173 h174
          refine q_callVv hE (M' := mX12_readEvent) (as := [_]) dX12_readLine_61 lk12_230 inX12_readEvent seX12_readEvent myX12_readEvent (by decide) ⟨by decide, by decide⟩ rfl (kR15 hS0.1 ta0) (Nat.le_of_ble_eq_true rfl) rfl rfl (by decide) (by decide) (k_X12_readEvent hS0.1 ta0 (by omega) ⟨_, d2⟩) ?_
          rintro cn' K' N' I175 R176 L177 ⟨rfl, rfl, rfl, rfl, g178, w180, -⟩
          have hS181 := hS0.tr g178 (by decide +kernel) (by decide +kernel)
          have w182 : RdI a0 I0 I175 := (EwI.rf a0 I0).rd w180
          refine tr_goto 186 dX12_readLine_64 (by decide) ?_
          exact tr_vret hZ dX12_readLine_186 rfl (by decide) (by decide) ⟨rfl, rfl, rfl, rfl, rfl, hS181, w182, trivial⟩
      · skip
        refine tr_aload_n dX12_readLine_42 rfl ?_
        refine q_iconst dX12_readLine_43 (by decide) ?_
        intro v183 h184
        refine q_callVv hE (M' := mX12_readEvent) (as := [_]) dX12_readLine_44 lk12_230 inX12_readEvent seX12_readEvent myX12_readEvent (by decide) ⟨by decide, by decide⟩ rfl (kR15 hS0.1 ta0) (Nat.le_of_ble_eq_true rfl) rfl rfl (by decide) (by decide) (k_X12_readEvent hS0.1 ta0 (by omega) ⟨_, d2⟩) ?_
        rintro cn' K' N' I185 R186 L187 ⟨rfl, rfl, rfl, rfl, g188, w190, -⟩
        have hS191 := hS0.tr g188 (by decide +kernel) (by decide +kernel)
        have w192 : RdI a0 I0 I185 := (EwI.rf a0 I0).rd w190
        refine tr_goto 186 dX12_readLine_47 (by decide) ?_
        exact tr_vret hZ dX12_readLine_186 rfl (by decide) (by decide) ⟨rfl, rfl, rfl, rfl, rfl, hS191, w192, trivial⟩
    · skip
      refine tr_aload_n dX12_readLine_25 rfl ?_
      refine q_iconst dX12_readLine_26 (by decide) ?_
      intro v193 h194
      refine q_callVv hE (M' := mX12_readEvent) (as := [_]) dX12_readLine_27 lk12_230 inX12_readEvent seX12_readEvent myX12_readEvent (by decide) ⟨by decide, by decide⟩ rfl (kR15 hS0.1 ta0) (Nat.le_of_ble_eq_true rfl) rfl rfl (by decide) (by decide) (k_X12_readEvent hS0.1 ta0 (by omega) ⟨_, d2⟩) ?_
      rintro cn' K' N' I195 R196 L197 ⟨rfl, rfl, rfl, rfl, g198, w200, -⟩
      have hS201 := hS0.tr g198 (by decide +kernel) (by decide +kernel)
      have w202 : RdI a0 I0 I195 := (EwI.rf a0 I0).rd w200
      refine tr_goto 186 dX12_readLine_30 (by decide) ?_
      exact tr_vret hZ dX12_readLine_186 rfl (by decide) (by decide) ⟨rfl, rfl, rfl, rfl, rfl, hS201, w202, trivial⟩
  · skip
    refine tr_aload_n dX12_readLine_9 rfl ?_
    refine q_callVv hE (M' := mX12_readAlp) (as := []) dX12_readLine_10 lk12_227 inX12_readAlp seX12_readAlp myX12_readAlp (by decide) ⟨by decide, by decide⟩ rfl (kR15 hS0.1 ta0) (Nat.le_of_ble_eq_true rfl) rfl rfl (by decide) (by decide) (k_X12_readAlp hS0.1 ta0 ⟨_, d2⟩) ?_
    rintro cn' K' N' I203 R204 L205 ⟨rfl, rfl, rfl, rfl, g206, w208, -⟩
    have hS209 := hS0.tr g206 (by decide +kernel) (by decide +kernel)
    have w210 : RdI a0 I0 I203 := (EwI.rf a0 I0).rd w208
    refine tr_goto 186 dX12_readLine_13 (by decide) ?_
    exact tr_vret hZ dX12_readLine_186 rfl (by decide) (by decide) ⟨rfl, rfl, rfl, rfl, rfl, hS209, w210, trivial⟩
def wi_X12_readAll : List Nat := [896, 897, 898, 899, 900, 901, 902, 903, 904, 905, 968, 969, 970, 971, 972, 973, 974, 3455, 3519, 3583, 3647, 3711, 3775, 3839, 3903, 3967, 4031, 4095, 4159, 4223, 4287, 4351, 4415, 4479, 4543, 4607, 4671, 4799, 4863]
def wr_X12_readAll : List Nat := []
set_option maxHeartbeats 4000000 in
theorem k_X12_readAll {l : Launch} {T : Nat → Nat} {cn : Nat} {K N : Nat → Nat} {I0 : cz_I} {R0 : cz_R} {L0 : cz_L} (hW0 : Wf T cn K N I0 R0 0) {a0 : Nat} (ta0 : T a0 = 15) (nn4 : ∃ b, R0 a0 4 = some b) : ConE l mX12_readAll [.ref a0] cn K N I0 R0 L0 (ca_v (fun cn' K' N' I' R' L' => cn = cn' ∧ K = K' ∧ N = N' ∧ R0 = R' ∧ St T cn K N 0 wi_X12_readAll wr_X12_readAll I0 R0 I' R0 ∧ (∀ b1, R0 a0 4 = some b1 → (((I0 a0 9).toInt = 5 → (I0 a0 13).toInt ≥ 1) → ((I' a0 13).toInt ≥ 1 ∨ (I' b1 0).toInt ≥ 1))) ∧ True)) := by
  refine ConE.of (by decide +kernel) rfl (Nat.le_of_ble_eq_true rfl) rfl (fun X hX hZ hE => ?_)
  subst hX
  have hS0 : St T cn K N 0 wi_X12_readAll wr_X12_readAll I0 R0 I0 R0 := St.rf0 hW0
  obtain ⟨a1, d2⟩ := nn4
  have ta1 : T a1 = 14 := hW0.rsN ta0 rfl d2
  obtain ⟨v3, c4⟩ : ∃ v, I0 a0 9 = v := ⟨_, rfl⟩
  have b5 := iv15_9 hS0.1 ta0 c4
  obtain ⟨v6, c7⟩ : ∃ v, I0 a0 13 = v := ⟨_, rfl⟩
  refine q_iconst dX12_readAll_0 (by decide) ?_
  intro v8 h9
  refine tr_istore_n dX12_readAll_1 (by decide) (by decide) ?_
  obtain ⟨v19, c20⟩ : ∃ v, I0 a0 8 = v := ⟨_, rfl⟩
  have b21 := iv15_8 hS0.1 ta0 c20
  have lp24 : ∀ (fu : Nat) (ls : Nat → Option Value) (v10 : Int32) (I13 : cz_I) (L14 : cz_L) (v16 : Int32), ls 0 = some (.ref a0) → ls 1 = some (.int v10) → St T cn K N 0 wi_X12_readAll wr_X12_readAll I0 R0 I13 R0 → I13 a0 8 = v16 → EwI a0 I0 I13 → 0 ≤ v10.toInt → v10.toInt ≤ 1 → (-v16.toInt + v10.toInt + 900).toNat < fu → Tr X mX12_readAll 2 ls [] cn K N I13 R0 L14 0 0 := by
    intro fu
    induction fu with
    | zero => intros; rename_i hz; exact absurd hz (Nat.not_lt_zero _)
    | succ fu ih24 =>
      intro ls v10 I13 L14 v16 hl11 hl12 hS15 c17 w18 g22 g23 hm24
      have b26 := iv15_8 hS15.1 ta0 c17
      refine tr_iload_n dX12_readAll_2 hl12 ?_
      refine q_if_eq 20 dX12_readAll_3 (by decide) (fun h27 => ?_) (fun h27 => ?_)
      · skip
        refine tr_aload_n dX12_readAll_20 hl11 ?_
        obtain ⟨v28, c29⟩ : ∃ v, I13 a0 9 = v := ⟨_, rfl⟩
        have b30 := iv15_9 hS15.1 ta0 c29
        refine q_getI dX12_readAll_21 fl12_99 (kR15 hS15.1 ta0) c29 ?_
        refine q_iconst dX12_readAll_24 (by decide) ?_
        intro v31 h32
        refine q_icmp_eq 33 dX12_readAll_25 (by decide) (fun h33 => ?_) (fun h33 => ?_)
        · skip
          refine tr_aload_n dX12_readAll_33 hl11 ?_
          refine tr_getR dX12_readAll_34 fl12_188 (kR15 hS15.1 ta0) d2 ?_
          obtain ⟨v34, c35⟩ : ∃ v, I13 a1 0 = v := ⟨_, rfl⟩
          have b36 := iv14_0 hS15.1 ta1 c35
          refine q_getI dX12_readAll_37 fl12_192 (kR14 hS15.1 ta1) c35 ?_
          refine q_if_eq 53 dX12_readAll_40 (by decide) (fun h37 => ?_) (fun h37 => ?_)
          · skip
            refine tr_aload_n dX12_readAll_53 hl11 ?_
            refine q_bipush dX12_readAll_54 (by decide +kernel) ?_
            intro v38 h39
            refine q_callVv hE (M' := mX12_flaw) (as := [_]) dX12_readAll_56 lk12_145 inX12_flaw seX12_flaw myX12_flaw (by decide) ⟨by decide, by decide⟩ rfl (kR15 hS15.1 ta0) (Nat.le_of_ble_eq_true rfl) rfl rfl (by decide) (by decide) (k_X12_flaw hS15.1 ta0 (by omega)) ?_
            rintro cn' K' N' I40 R41 L42 ⟨rfl, rfl, rfl, rfl, rfl, g43, p45, p46, w47, -⟩
            have hS48 := hS15.tr g43 (by decide +kernel) (by decide +kernel)
            have c49 : I40 a0 8 = v16 := (g43.cell ta0 (by decide +kernel)).trans c17
            have c50 : I40 a1 0 = v34 := (g43.cell ta1 (by decide +kernel)).trans c35
            have w51 : RdI a0 I0 I40 := w18.rd w47
            have w52 : RdI a0 I13 I40 := (EwI.rf a0 I13).rd w47
            obtain ⟨v53, c54⟩ : ∃ v, I40 a0 9 = v := ⟨_, rfl⟩
            have b55 := iv15_9 hS48.1 ta0 c54
            rw [c54] at p45
            rw [c49] at p46
            rw [c17] at p46
            have z56 := w51.f4
            (try rw [c54] at z56)
            (try rw [c4] at z56)
            obtain ⟨v57, c58⟩ : ∃ v, I40 a0 13 = v := ⟨_, rfl⟩
            (try rw [c58] at z56)
            (try rw [c7] at z56)
            exact tr_vret hZ dX12_readAll_59 rfl (by decide) (by decide) ⟨rfl, rfl, rfl, rfl, rfl, hS48, (fun q0 z0 => by obtain rfl := Option.some.inj ((d2).symm.trans z0); (try rw [c4]); (try rw [c7]); (try rw [c58]); (try rw [c50]); (try omega)), trivial⟩
          · skip
            refine tr_aload_n dX12_readAll_43 hl11 ?_
            refine tr_getR dX12_readAll_44 fl12_188 (kR15 hS15.1 ta0) d2 ?_
            obtain ⟨v59, c60⟩ : ∃ v, I13 a1 3 = v := ⟨_, rfl⟩
            have b61 := iv14_3 hS15.1 ta1 c60
            refine q_getI dX12_readAll_47 fl12_224 (kR14 hS15.1 ta1) c60 ?_
            refine q_if_ne 59 dX12_readAll_50 (by decide) (fun h62 => ?_) (fun h62 => ?_)
            · skip
              have z63 := w18.f4
              (try rw [c29] at z63)
              (try rw [c4] at z63)
              obtain ⟨v64, c65⟩ : ∃ v, I13 a0 13 = v := ⟨_, rfl⟩
              (try rw [c65] at z63)
              (try rw [c7] at z63)
              exact tr_vret hZ dX12_readAll_59 rfl (by decide) (by decide) ⟨rfl, rfl, rfl, rfl, rfl, hS15, (fun q0 z0 => by obtain rfl := Option.some.inj ((d2).symm.trans z0); (try rw [c4]); (try rw [c7]); (try rw [c65]); (try rw [c35]); (try omega)), trivial⟩
            · skip
              refine tr_aload_n dX12_readAll_53 hl11 ?_
              refine q_bipush dX12_readAll_54 (by decide +kernel) ?_
              intro v66 h67
              refine q_callVv hE (M' := mX12_flaw) (as := [_]) dX12_readAll_56 lk12_145 inX12_flaw seX12_flaw myX12_flaw (by decide) ⟨by decide, by decide⟩ rfl (kR15 hS15.1 ta0) (Nat.le_of_ble_eq_true rfl) rfl rfl (by decide) (by decide) (k_X12_flaw hS15.1 ta0 (by omega)) ?_
              rintro cn' K' N' I68 R69 L70 ⟨rfl, rfl, rfl, rfl, rfl, g71, p73, p74, w75, -⟩
              have hS76 := hS15.tr g71 (by decide +kernel) (by decide +kernel)
              have c77 : I68 a0 8 = v16 := (g71.cell ta0 (by decide +kernel)).trans c17
              have c78 : I68 a1 0 = v34 := (g71.cell ta1 (by decide +kernel)).trans c35
              have c79 : I68 a1 3 = v59 := (g71.cell ta1 (by decide +kernel)).trans c60
              have w80 : RdI a0 I0 I68 := w18.rd w75
              have w81 : RdI a0 I13 I68 := (EwI.rf a0 I13).rd w75
              obtain ⟨v82, c83⟩ : ∃ v, I68 a0 9 = v := ⟨_, rfl⟩
              have b84 := iv15_9 hS76.1 ta0 c83
              rw [c83] at p73
              rw [c77] at p74
              rw [c17] at p74
              have z85 := w80.f4
              (try rw [c83] at z85)
              (try rw [c4] at z85)
              obtain ⟨v86, c87⟩ : ∃ v, I68 a0 13 = v := ⟨_, rfl⟩
              (try rw [c87] at z85)
              (try rw [c7] at z85)
              exact tr_vret hZ dX12_readAll_59 rfl (by decide) (by decide) ⟨rfl, rfl, rfl, rfl, rfl, hS76, (fun q0 z0 => by obtain rfl := Option.some.inj ((d2).symm.trans z0); (try rw [c4]); (try rw [c7]); (try rw [c87]); (try rw [c78]); (try omega)), trivial⟩
        · skip
          refine tr_aload_n dX12_readAll_28 hl11 ?_
          refine q_iconst dX12_readAll_29 (by decide) ?_
          intro v88 h89
          refine q_callVv hE (M' := mX12_flaw) (as := [_]) dX12_readAll_30 lk12_145 inX12_flaw seX12_flaw myX12_flaw (by decide) ⟨by decide, by decide⟩ rfl (kR15 hS15.1 ta0) (Nat.le_of_ble_eq_true rfl) rfl rfl (by decide) (by decide) (k_X12_flaw hS15.1 ta0 (by omega)) ?_
          rintro cn' K' N' I90 R91 L92 ⟨rfl, rfl, rfl, rfl, rfl, g93, p95, p96, w97, -⟩
          have hS98 := hS15.tr g93 (by decide +kernel) (by decide +kernel)
          have c99 : I90 a0 8 = v16 := (g93.cell ta0 (by decide +kernel)).trans c17
          have w100 : RdI a0 I0 I90 := w18.rd w97
          have w101 : RdI a0 I13 I90 := (EwI.rf a0 I13).rd w97
          obtain ⟨v102, c103⟩ : ∃ v, I90 a0 9 = v := ⟨_, rfl⟩
          have b104 := iv15_9 hS98.1 ta0 c103
          rw [c103] at p95
          rw [c99] at p96
          rw [c17] at p96
          refine tr_aload_n dX12_readAll_33 hl11 ?_
          refine tr_getR dX12_readAll_34 fl12_188 (kR15 hS98.1 ta0) d2 ?_
          obtain ⟨v105, c106⟩ : ∃ v, I90 a1 0 = v := ⟨_, rfl⟩
          have b107 := iv14_0 hS98.1 ta1 c106
          refine q_getI dX12_readAll_37 fl12_192 (kR14 hS98.1 ta1) c106 ?_
          refine q_if_eq 53 dX12_readAll_40 (by decide) (fun h108 => ?_) (fun h108 => ?_)
          · skip
            refine tr_aload_n dX12_readAll_53 hl11 ?_
            refine q_bipush dX12_readAll_54 (by decide +kernel) ?_
            intro v109 h110
            refine q_callVv hE (M' := mX12_flaw) (as := [_]) dX12_readAll_56 lk12_145 inX12_flaw seX12_flaw myX12_flaw (by decide) ⟨by decide, by decide⟩ rfl (kR15 hS98.1 ta0) (Nat.le_of_ble_eq_true rfl) rfl rfl (by decide) (by decide) (k_X12_flaw hS98.1 ta0 (by omega)) ?_
            rintro cn' K' N' I111 R112 L113 ⟨rfl, rfl, rfl, rfl, rfl, g114, p116, p117, w118, -⟩
            have hS119 := hS98.tr g114 (by decide +kernel) (by decide +kernel)
            have c120 : I111 a0 8 = v16 := (g114.cell ta0 (by decide +kernel)).trans c99
            have c121 : I111 a1 0 = v105 := (g114.cell ta1 (by decide +kernel)).trans c106
            have w122 : RdI a0 I0 I111 := w100.rd w118
            have w123 : RdI a0 I13 I111 := w101.rd w118
            obtain ⟨v124, c125⟩ : ∃ v, I111 a0 9 = v := ⟨_, rfl⟩
            have b126 := iv15_9 hS119.1 ta0 c125
            rw [c125] at p116
            rw [c120] at p117
            rw [c99] at p117
            have z127 := w122.f4
            (try rw [c125] at z127)
            (try rw [c4] at z127)
            obtain ⟨v128, c129⟩ : ∃ v, I111 a0 13 = v := ⟨_, rfl⟩
            (try rw [c129] at z127)
            (try rw [c7] at z127)
            exact tr_vret hZ dX12_readAll_59 rfl (by decide) (by decide) ⟨rfl, rfl, rfl, rfl, rfl, hS119, (fun q0 z0 => by obtain rfl := Option.some.inj ((d2).symm.trans z0); (try rw [c4]); (try rw [c7]); (try rw [c129]); (try rw [c121]); (try omega)), trivial⟩
          · skip
            refine tr_aload_n dX12_readAll_43 hl11 ?_
            refine tr_getR dX12_readAll_44 fl12_188 (kR15 hS98.1 ta0) d2 ?_
            obtain ⟨v130, c131⟩ : ∃ v, I90 a1 3 = v := ⟨_, rfl⟩
            have b132 := iv14_3 hS98.1 ta1 c131
            refine q_getI dX12_readAll_47 fl12_224 (kR14 hS98.1 ta1) c131 ?_
            refine q_if_ne 59 dX12_readAll_50 (by decide) (fun h133 => ?_) (fun h133 => ?_)
            · skip
              have z134 := w100.f4
              (try rw [c103] at z134)
              (try rw [c4] at z134)
              obtain ⟨v135, c136⟩ : ∃ v, I90 a0 13 = v := ⟨_, rfl⟩
              (try rw [c136] at z134)
              (try rw [c7] at z134)
              exact tr_vret hZ dX12_readAll_59 rfl (by decide) (by decide) ⟨rfl, rfl, rfl, rfl, rfl, hS98, (fun q0 z0 => by obtain rfl := Option.some.inj ((d2).symm.trans z0); (try rw [c4]); (try rw [c7]); (try rw [c136]); (try rw [c106]); (try omega)), trivial⟩
            · skip
              refine tr_aload_n dX12_readAll_53 hl11 ?_
              refine q_bipush dX12_readAll_54 (by decide +kernel) ?_
              intro v137 h138
              refine q_callVv hE (M' := mX12_flaw) (as := [_]) dX12_readAll_56 lk12_145 inX12_flaw seX12_flaw myX12_flaw (by decide) ⟨by decide, by decide⟩ rfl (kR15 hS98.1 ta0) (Nat.le_of_ble_eq_true rfl) rfl rfl (by decide) (by decide) (k_X12_flaw hS98.1 ta0 (by omega)) ?_
              rintro cn' K' N' I139 R140 L141 ⟨rfl, rfl, rfl, rfl, rfl, g142, p144, p145, w146, -⟩
              have hS147 := hS98.tr g142 (by decide +kernel) (by decide +kernel)
              have c148 : I139 a0 8 = v16 := (g142.cell ta0 (by decide +kernel)).trans c99
              have c149 : I139 a1 0 = v105 := (g142.cell ta1 (by decide +kernel)).trans c106
              have c150 : I139 a1 3 = v130 := (g142.cell ta1 (by decide +kernel)).trans c131
              have w151 : RdI a0 I0 I139 := w100.rd w146
              have w152 : RdI a0 I13 I139 := w101.rd w146
              obtain ⟨v153, c154⟩ : ∃ v, I139 a0 9 = v := ⟨_, rfl⟩
              have b155 := iv15_9 hS147.1 ta0 c154
              rw [c154] at p144
              rw [c148] at p145
              rw [c99] at p145
              have z156 := w151.f4
              (try rw [c154] at z156)
              (try rw [c4] at z156)
              obtain ⟨v157, c158⟩ : ∃ v, I139 a0 13 = v := ⟨_, rfl⟩
              (try rw [c158] at z156)
              (try rw [c7] at z156)
              exact tr_vret hZ dX12_readAll_59 rfl (by decide) (by decide) ⟨rfl, rfl, rfl, rfl, rfl, hS147, (fun q0 z0 => by obtain rfl := Option.some.inj ((d2).symm.trans z0); (try rw [c4]); (try rw [c7]); (try rw [c158]); (try rw [c149]); (try omega)), trivial⟩
      · skip
        refine tr_aload_n dX12_readAll_6 hl11 ?_
        refine q_callVv hE (M' := mX12_readLine) (as := []) dX12_readAll_7 lk12_218 inX12_readLine seX12_readLine myX12_readLine (by decide) ⟨by decide, by decide⟩ rfl (kR15 hS15.1 ta0) (Nat.le_of_ble_eq_true rfl) rfl rfl (by decide) (by decide) (k_X12_readLine hS15.1 ta0 ⟨_, d2⟩) ?_
        rintro cn' K' N' I159 R160 L161 ⟨rfl, rfl, rfl, rfl, g162, w164, -⟩
        have hS165 := hS15.tr g162 (by decide +kernel) (by decide +kernel)
        have w166 : RdI a0 I0 I159 := w18.rd w164
        have w167 : RdI a0 I13 I159 := (EwI.rf a0 I13).rd w164
        refine tr_aload_n dX12_readAll_10 hl11 ?_
        refine q_bipush dX12_readAll_11 (by decide +kernel) ?_
        intro v168 h169
        have z170 := w167.2.2.1
        obtain ⟨v171, c172⟩ : ∃ v, I159 a0 8 = v := ⟨_, rfl⟩
        have b173 := iv15_8 hS165.1 ta0 c172
        obtain ⟨v174, c175⟩ : ∃ v, I159 a0 9 = v := ⟨_, rfl⟩
        have b176 := iv15_9 hS165.1 ta0 c175
        (try rw [c17] at z170)
        (try rw [c172] at z170)
        (try rw [c175] at z170)
        have z177 := w167.2.1
        (try rw [c17] at z177)
        (try rw [c172] at z177)
        refine q_callVi hE (M' := mX12_eatsSign) (as := [_]) dX12_readAll_13 lk12_221 inX12_eatsSign seX12_eatsSign myX12_eatsSign (by decide) ⟨by decide, by decide⟩ rfl (kR15 hS165.1 ta0) (Nat.le_of_ble_eq_true rfl) rfl rfl (by decide) (by decide) (k_X12_eatsSign hS165.1 ta0) ?_
        rintro v182 cn' K' N' I178 R179 L180 ⟨rfl, rfl, rfl, rfl, g181, h183, p184, p185, w186, -⟩
        have hS187 := hS165.tr g181 (by decide +kernel) (by decide +kernel)
        have w188 : RdI a0 I0 I178 := w166.ew w186
        have w189 : RdI a0 I13 I178 := w167.ew w186
        rw [c175] at p184
        obtain ⟨v190, c191⟩ : ∃ v, I178 a0 8 = v := ⟨_, rfl⟩
        have b192 := iv15_8 hS187.1 ta0 c191
        rw [c191] at p185
        rw [c172] at p185
        refine tr_istore_n dX12_readAll_16 (by decide) (by decide) ?_
        refine tr_goto 2 dX12_readAll_17 (by decide) ?_
        exact ih24 _ v182 I178 L180 v190 hl11 rfl hS187 c191 (Or.inr w188) (by omega) (by omega) (by omega)
  exact lp24 _ _ v8 I0 L0 v19 rfl rfl hS0 c20 (EwI.rf a0 I0) (by omega) (by omega) (Nat.lt_succ_self _)
