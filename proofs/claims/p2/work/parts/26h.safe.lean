def wi_X12_readRising_1 : List Nat := [959, 968, 969, 970, 971, 972, 973, 974]
def wr_X12_readRising_1 : List Nat := []
set_option maxHeartbeats 4000000 in
theorem k_X12_readRising_1 {l : Launch} {T : Nat → Nat} {cn : Nat} {K N : Nat → Nat} {I0 : cz_I} {R0 : cz_R} {L0 : cz_L} {d : Int} (hW0 : Wf T cn K N I0 R0 d) {a0 : Nat} (ta0 : T a0 = 15) {a1 : Nat} (ta1 : T a1 = 59) {x2 : Int32} (hx2 : 0 ≤ x2.toInt ∧ x2.toInt ≤ 0) {x3 : Int32} (hx3 : 8 ≤ x3.toInt ∧ x3.toInt ≤ 8) (nn4 : ∃ b, R0 a0 4 = some b) : ConE l mX12_readRising [.ref a0, .ref a1, .int x2, .int x3] cn K N I0 R0 L0 (ca_i (fun v cn' K' N' I' R' L' => cn = cn' ∧ K = K' ∧ N = N' ∧ R0 = R' ∧ St T cn K N d wi_X12_readRising_1 wr_X12_readRising_1 I0 R0 I' R0 ∧ (0 ≤ v.toInt ∧ v.toInt ≤ 8) ∧ (((I0 a0 9).toInt = 5 → (I' a0 9).toInt = 5)) ∧ ((I' a0 8).toInt ≥ (I0 a0 8).toInt) ∧ (((2 ≤ (I' a0 9).toInt ∧ (I' a0 9).toInt ≤ 4) → (I' a0 8).toInt ≥ (I0 a0 8).toInt + 1)) ∧ ((((I0 a0 9).toInt = 5 → (I0 a0 13).toInt ≥ 1) → ((I' a0 9).toInt = 5 → (I' a0 13).toInt ≥ 1))) ∧ True)) := by
  refine ConE.of (by decide +kernel) rfl (Nat.le_of_ble_eq_true rfl) rfl (fun X hX hZ hE => ?_)
  subst hX
  have hS0 : St T cn K N d wi_X12_readRising_1 wr_X12_readRising_1 I0 R0 I0 R0 := St.rf0 hW0
  obtain ⟨a1, d2⟩ := nn4
  have ta1 : T a1 = 14 := hW0.rsN ta0 rfl d2
  obtain ⟨v3, c4⟩ : ∃ v, I0 a0 9 = v := ⟨_, rfl⟩
  have b5 := iv15_9 hS0.1 ta0 c4
  obtain ⟨v6, c7⟩ : ∃ v, I0 a0 8 = v := ⟨_, rfl⟩
  have b8 := iv15_8 hS0.1 ta0 c7
  obtain ⟨v9, c10⟩ : ∃ v, I0 a0 13 = v := ⟨_, rfl⟩
  refine q_iconst dX12_readRising_0 (by decide) ?_
  intro v11 h12
  refine tr_istore dX12_readRising_1 (by decide) (by decide) ?_
  refine q_iconst dX12_readRising_3 (by decide) ?_
  intro v13 h14
  refine tr_istore dX12_readRising_4 (by decide) (by decide) ?_
  refine q_iconst dX12_readRising_6 (by decide) ?_
  intro v15 h16
  refine tr_istore dX12_readRising_7 (by decide) (by decide) ?_
  have lp47 : ∀ (fu : Nat) (ls : Nat → Option Value) (v17 : Int32) (v18 : Int32) (v19 : Int32) (I27 : cz_I) (L28 : cz_L) (v30 : Int32) (v32 : Int32) (v34 : Int32), ls 0 = some (.ref a0) → ls 1 = some (.ref a1) → ls 2 = some (.int x2) → ls 3 = some (.int x3) → ls 4 = some (.int v17) → ls 5 = some (.int v18) → ls 6 = some (.int v19) → St T cn K N d wi_X12_readRising_1 wr_X12_readRising_1 I0 R0 I27 R0 → I27 a0 9 = v30 → I27 a0 8 = v32 → I27 a0 13 = v34 → (v3.toInt = 5 → v30.toInt = 5) → v32.toInt ≥ v6.toInt → (v17.toInt ≥ 1 → ((2 ≤ v30.toInt ∧ v30.toInt ≤ 4) → v32.toInt ≥ v6.toInt + 1)) → ((v3.toInt = 5 → v9.toInt ≥ 1) → (v30.toInt = 5 → v34.toInt ≥ 1)) → (v17.toInt = 0 → v19.toInt = 1) → 0 ≤ v17.toInt → v17.toInt ≤ 8 → 0 ≤ v18.toInt → v18.toInt ≤ 240 → 0 ≤ v19.toInt → v19.toInt ≤ 1 → (-v17.toInt + 9).toNat < fu → Tr X mX12_readRising 9 ls [] cn K N I27 R0 L28 0 0 := by
    intro fu
    induction fu with
    | zero => intros; rename_i hz; exact absurd hz (Nat.not_lt_zero _)
    | succ fu ih47 =>
      intro ls v17 v18 v19 I27 L28 v30 v32 v34 hl20 hl21 hl22 hl23 hl24 hl25 hl26 hS29 c31 c33 c35 g36 g37 g38 g39 g40 g41 g42 g43 g44 g45 g46 hm47
      have b49 := iv15_9 hS29.1 ta0 c31
      have b50 := iv15_8 hS29.1 ta0 c33
      refine tr_iload dX12_readRising_9 hl26 ?_
      refine q_if_eq 92 dX12_readRising_11 (by decide) (fun h51 => ?_) (fun h51 => ?_)
      · skip
        refine tr_iload dX12_readRising_92 hl24 ?_
        exact tr_iret hZ dX12_readRising_94 rfl (by decide) (by decide) ⟨v17, rfl, rfl, rfl, rfl, rfl, hS29, (by omega), (by (try rw [c4]); (try rw [c31]); (try omega)), (by (try rw [c33]); (try rw [c7]); (try omega)), (by (try rw [c31]); (try rw [c33]); (try rw [c7]); (try omega)), (by (try rw [c4]); (try rw [c10]); (try rw [c31]); (try rw [c35]); (try omega)), trivial⟩
      · skip
        refine tr_aload_n dX12_readRising_14 hl20 ?_
        refine q_getI dX12_readRising_15 fl12_99 (kR15 hS29.1 ta0) c31 ?_
        refine q_iconst dX12_readRising_18 (by decide) ?_
        intro v52 h53
        refine q_icmp_eq 92 dX12_readRising_19 (by decide) (fun h54 => ?_) (fun h54 => ?_)
        · skip
          refine tr_iload dX12_readRising_92 hl24 ?_
          exact tr_iret hZ dX12_readRising_94 rfl (by decide) (by decide) ⟨v17, rfl, rfl, rfl, rfl, rfl, hS29, (by omega), (by (try rw [c4]); (try rw [c31]); (try omega)), (by (try rw [c33]); (try rw [c7]); (try omega)), (by (try rw [c31]); (try rw [c33]); (try rw [c7]); (try omega)), (by (try rw [c4]); (try rw [c10]); (try rw [c31]); (try rw [c35]); (try omega)), trivial⟩
        · skip
          refine tr_aload_n dX12_readRising_22 hl20 ?_
          refine tr_iload dX12_readRising_23 hl25 ?_
          refine tr_aload_n dX12_readRising_25 hl20 ?_
          refine tr_getR dX12_readRising_26 fl12_188 (kR15 hS29.1 ta0) d2 ?_
          obtain ⟨v55, c56⟩ : ∃ v, I0 a1 0 = v := ⟨_, rfl⟩
          have b57 := iv14_0 hW0 ta1 c56
          refine q_getI dX12_readRising_29 fl12_192 (kR14 hS29.1 ta1) ((hS29.cell ta1 (by decide +kernel)).trans c56) ?_
          refine q_iconst dX12_readRising_32 (by decide) ?_
          intro v58 h59
          refine q_isubE dX12_readRising_33 (by intros; omega) ?_
          intro v60 h61
          refine q_callVi hE (M' := mX12_bounded) (as := [_, _]) dX12_readRising_34 lk12_153 inX12_bounded seX12_bounded myX12_bounded (by decide) ⟨by decide, by decide⟩ rfl (kR15 hS29.1 ta0) (Nat.le_of_ble_eq_true rfl) rfl rfl (by decide) (by decide) (k_X12_bounded hS29.1 ta0) ?_
          rintro v66 cn' K' N' I62 R63 L64 ⟨rfl, rfl, rfl, rfl, rfl, g65, p67, p68, p69, p70, -⟩
          have hS71 := hS29.tr g65 (by decide +kernel) (by decide +kernel)
          have c72 : I62 a0 8 = v32 := (g65.cell ta0 (by decide +kernel)).trans c33
          obtain ⟨v73, c74⟩ : ∃ v, I62 a0 9 = v := ⟨_, rfl⟩
          have b75 := iv15_9 hS71.1 ta0 c74
          have p76 := p67
          rw [c31] at p76
          rw [c74] at p76
          have p77 := p68
          have p78 := p69
          rw [c74] at p78
          rw [c31] at p78
          obtain ⟨v79, c80⟩ : ∃ v, I62 a0 13 = v := ⟨_, rfl⟩
          have p81 := p70
          rw [c31] at p81
          rw [c35] at p81
          rw [c74] at p81
          rw [c80] at p81
          refine tr_istore dX12_readRising_37 (by decide) (by decide) ?_
          refine tr_iload dX12_readRising_39 hl24 ?_
          refine tr_iload_n dX12_readRising_41 hl23 ?_
          refine q_icmp_ne 50 dX12_readRising_42 (by decide) (fun h82 => ?_) (fun h82 => ?_)
          · skip
            refine tr_aload_n dX12_readRising_50 hl20 ?_
            refine q_callVv hE (M' := mX12_goesOn) (as := []) dX12_readRising_51 lk12_142 inX12_goesOn seX12_goesOn myX12_goesOn (by decide) ⟨by decide, by decide⟩ rfl (kR15 hS71.1 ta0) (Nat.le_of_ble_eq_true rfl) rfl rfl (by decide) (by decide) (k_X12_goesOn hS71.1 ta0) ?_
            rintro cn' K' N' I83 R84 L85 ⟨rfl, rfl, rfl, rfl, g86, p88, p89, p90, p91, -⟩
            have hS92 := hS71.tr g86 (by decide +kernel) (by decide +kernel)
            have c93 : I83 a0 13 = v79 := (g86.cell ta0 (by decide +kernel)).trans c80
            obtain ⟨v94, c95⟩ : ∃ v, I83 a0 9 = v := ⟨_, rfl⟩
            have b96 := iv15_9 hS92.1 ta0 c95
            obtain ⟨v97, c98⟩ : ∃ v, I83 a0 8 = v := ⟨_, rfl⟩
            have b99 := iv15_8 hS92.1 ta0 c98
            have p100 := p88
            rw [c74] at p100
            rw [c95] at p100
            rw [c98] at p100
            rw [c72] at p100
            have p101 := p89
            rw [c74] at p101
            rw [c95] at p101
            have p102 := p90
            rw [c98] at p102
            rw [c72] at p102
            have p103 := p91
            rw [c74] at p103
            rw [c95] at p103
            rw [c98] at p103
            rw [c72] at p103
            refine tr_aload_n dX12_readRising_54 hl20 ?_
            refine q_getI dX12_readRising_55 fl12_99 (kR15 hS92.1 ta0) c95 ?_
            refine q_iconst dX12_readRising_58 (by decide) ?_
            intro v104 h105
            refine q_icmp_ne 64 dX12_readRising_59 (by decide) (fun h106 => ?_) (fun h106 => ?_)
            · skip
              refine tr_aload_n dX12_readRising_64 hl21 ?_
              refine tr_iload_n dX12_readRising_65 hl22 ?_
              refine tr_iload dX12_readRising_66 hl24 ?_
              refine q_iaddE dX12_readRising_68 (by intros; omega) ?_
              intro v107 h108
              refine tr_iload dX12_readRising_69 rfl ?_
              refine q_zast dX12_readRising_71 (kR14 hS92.1 ta1) (ti_in (nR14 hS92.1 ta1) (by omega) (by omega)) hS92 ta1 (by omega) rfl rfl (by rfl) ?_
              intro I109 hS110 f111
              have c113 : I109 a0 13 = v79 := (f111 _ _ (fun q => by have z := ta0; rw [q.1, ta1] at z; exact absurd z (by decide))).trans c93
              have c114 : I109 a0 9 = v94 := (f111 _ _ (fun q => by have z := ta0; rw [q.1, ta1] at z; exact absurd z (by decide))).trans c95
              have c115 : I109 a0 8 = v97 := (f111 _ _ (fun q => by have z := ta0; rw [q.1, ta1] at z; exact absurd z (by decide))).trans c98
              refine q_iincE dX12_readRising_72 hl24 (by decide) (by decide) (by intros; omega) ?_
              intro v116 h117
              refine tr_iload dX12_readRising_75 rfl ?_
              refine q_iconst dX12_readRising_77 (by decide) ?_
              intro v118 h119
              refine q_iaddE dX12_readRising_78 (by intros; omega) ?_
              intro v120 h121
              refine tr_istore dX12_readRising_79 (by decide) (by decide) ?_
              refine tr_aload_n dX12_readRising_81 hl20 ?_
              refine q_bipush dX12_readRising_82 (by decide +kernel) ?_
              intro v122 h123
              refine q_callVi hE (M' := mX12_eatsSign) (as := [_]) dX12_readRising_84 lk12_221 inX12_eatsSign seX12_eatsSign myX12_eatsSign (by decide) ⟨by decide, by decide⟩ rfl (kR15 hS110.1 ta0) (Nat.le_of_ble_eq_true rfl) rfl rfl (by decide) (by decide) (k_X12_eatsSign hS110.1 ta0) ?_
              rintro v128 cn' K' N' I124 R125 L126 ⟨rfl, rfl, rfl, rfl, g127, h129, p130, p131, p132, -⟩
              have hS133 := hS110.tr g127 (by decide +kernel) (by decide +kernel)
              have c134 : I124 a0 13 = v79 := (g127.cell ta0 (by decide +kernel)).trans c113
              obtain ⟨v135, c136⟩ : ∃ v, I124 a0 9 = v := ⟨_, rfl⟩
              have b137 := iv15_9 hS133.1 ta0 c136
              obtain ⟨v138, c139⟩ : ∃ v, I124 a0 8 = v := ⟨_, rfl⟩
              have b140 := iv15_8 hS133.1 ta0 c139
              have p141 := p130
              rw [c136] at p141
              rw [c114] at p141
              rw [c139] at p141
              rw [c115] at p141
              have p142 := p131
              rw [c114] at p142
              rw [c136] at p142
              rw [c139] at p142
              rw [c115] at p142
              have p143 := p132
              rw [c136] at p143
              rw [c139] at p143
              rw [c115] at p143
              refine tr_istore dX12_readRising_87 (by decide) (by decide) ?_
              refine tr_goto 9 dX12_readRising_89 (by decide) ?_
              exact ih47 _ v116 v120 v128 I124 L126 v135 v138 v79 hl20 hl21 hl22 hl23 rfl rfl rfl hS133 c136 c139 c134 (by omega) (by omega) (by omega) (by omega) (by omega) (by omega) (by omega) (by omega) (by omega) (by omega) (by omega) (by omega)
            · skip
              refine q_iconst dX12_readRising_62 (by decide) ?_
              intro v144 h145
              exact tr_iret hZ dX12_readRising_63 rfl (by decide) (by decide) ⟨v144, rfl, rfl, rfl, rfl, rfl, hS92, (by omega), (by (try rw [c4]); (try rw [c95]); (try omega)), (by (try rw [c98]); (try rw [c7]); (try omega)), (by (try rw [c95]); (try rw [c98]); (try rw [c7]); (try omega)), (by (try rw [c4]); (try rw [c10]); (try rw [c95]); (try rw [c93]); (try omega)), trivial⟩
          · skip
            refine tr_aload_n dX12_readRising_45 hl20 ?_
            refine q_iconst dX12_readRising_46 (by decide) ?_
            intro v146 h147
            refine q_callVv hE (M' := mX12_flaw) (as := [_]) dX12_readRising_47 lk12_145 inX12_flaw seX12_flaw myX12_flaw (by decide) ⟨by decide, by decide⟩ rfl (kR15 hS71.1 ta0) (Nat.le_of_ble_eq_true rfl) rfl rfl (by decide) (by decide) (k_X12_flaw hS71.1 ta0 (by omega)) ?_
            rintro cn' K' N' I148 R149 L150 ⟨rfl, rfl, rfl, rfl, rfl, g151, p153, p154, -⟩
            have hS155 := hS71.tr g151 (by decide +kernel) (by decide +kernel)
            have c156 : I148 a0 8 = v32 := (g151.cell ta0 (by decide +kernel)).trans c72
            obtain ⟨v157, c158⟩ : ∃ v, I148 a0 9 = v := ⟨_, rfl⟩
            have b159 := iv15_9 hS155.1 ta0 c158
            have p160 := p153
            rw [c158] at p160
            obtain ⟨v161, c162⟩ : ∃ v, I148 a0 13 = v := ⟨_, rfl⟩
            have p163 := p154
            rw [c74] at p163
            rw [c80] at p163
            rw [c162] at p163
            refine tr_aload_n dX12_readRising_50 hl20 ?_
            refine q_callVv hE (M' := mX12_goesOn) (as := []) dX12_readRising_51 lk12_142 inX12_goesOn seX12_goesOn myX12_goesOn (by decide) ⟨by decide, by decide⟩ rfl (kR15 hS155.1 ta0) (Nat.le_of_ble_eq_true rfl) rfl rfl (by decide) (by decide) (k_X12_goesOn hS155.1 ta0) ?_
            rintro cn' K' N' I164 R165 L166 ⟨rfl, rfl, rfl, rfl, g167, p169, p170, p171, p172, -⟩
            have hS173 := hS155.tr g167 (by decide +kernel) (by decide +kernel)
            have c174 : I164 a0 13 = v161 := (g167.cell ta0 (by decide +kernel)).trans c162
            obtain ⟨v175, c176⟩ : ∃ v, I164 a0 9 = v := ⟨_, rfl⟩
            have b177 := iv15_9 hS173.1 ta0 c176
            obtain ⟨v178, c179⟩ : ∃ v, I164 a0 8 = v := ⟨_, rfl⟩
            have b180 := iv15_8 hS173.1 ta0 c179
            have p181 := p169
            rw [c158] at p181
            rw [c176] at p181
            rw [c179] at p181
            rw [c156] at p181
            have p182 := p170
            rw [c158] at p182
            rw [c176] at p182
            have p183 := p171
            rw [c179] at p183
            rw [c156] at p183
            have p184 := p172
            rw [c158] at p184
            rw [c176] at p184
            rw [c179] at p184
            rw [c156] at p184
            refine tr_aload_n dX12_readRising_54 hl20 ?_
            refine q_getI dX12_readRising_55 fl12_99 (kR15 hS173.1 ta0) c176 ?_
            refine q_iconst dX12_readRising_58 (by decide) ?_
            intro v185 h186
            refine q_icmp_ne 64 dX12_readRising_59 (by decide) (fun h187 => ?_) (fun h187 => ?_)
            · skip
              exfalso; omega
            · skip
              refine q_iconst dX12_readRising_62 (by decide) ?_
              intro v188 h189
              exact tr_iret hZ dX12_readRising_63 rfl (by decide) (by decide) ⟨v188, rfl, rfl, rfl, rfl, rfl, hS173, (by omega), (by (try rw [c4]); (try rw [c176]); (try omega)), (by (try rw [c179]); (try rw [c7]); (try omega)), (by (try rw [c176]); (try rw [c179]); (try rw [c7]); (try omega)), (by (try rw [c4]); (try rw [c10]); (try rw [c176]); (try rw [c174]); (try omega)), trivial⟩
  exact lp47 _ _ v11 v13 v15 I0 L0 v3 v6 v9 rfl rfl rfl rfl rfl rfl rfl hS0 c4 c7 c10 (by omega) (by omega) (by omega) (by omega) (by omega) (by omega) (by omega) (by omega) (by omega) (by omega) (by omega) (Nat.lt_succ_self _)
def wi_X12_readAlmanac : List Nat := [904, 905, 959, 968, 969, 970, 971, 972, 973, 974]
def wr_X12_readAlmanac : List Nat := []
set_option maxHeartbeats 4000000 in
theorem k_X12_readAlmanac {l : Launch} {T : Nat → Nat} {cn : Nat} {K N : Nat → Nat} {I0 : cz_I} {R0 : cz_R} {L0 : cz_L} {d : Int} (hW0 : Wf T cn K N I0 R0 d) {a0 : Nat} (ta0 : T a0 = 15) (nn4 : ∃ b, R0 a0 4 = some b) : ConE l mX12_readAlmanac [.ref a0] cn K N I0 R0 L0 (ca_v (fun cn' K' N' I' R' L' => cn = cn' ∧ K = K' ∧ N = N' ∧ R0 = R' ∧ St T cn K N d wi_X12_readAlmanac wr_X12_readAlmanac I0 R0 I' R0 ∧ (((I0 a0 9).toInt = 5 → (I' a0 9).toInt = 5)) ∧ ((I' a0 8).toInt ≥ (I0 a0 8).toInt) ∧ (((2 ≤ (I' a0 9).toInt ∧ (I' a0 9).toInt ≤ 4) → (I' a0 8).toInt ≥ (I0 a0 8).toInt + 1)) ∧ ((((I0 a0 9).toInt = 5 → (I0 a0 13).toInt ≥ 1) → ((I' a0 9).toInt = 5 → (I' a0 13).toInt ≥ 1))) ∧ True)) := by
  refine ConE.of (by decide +kernel) rfl (Nat.le_of_ble_eq_true rfl) rfl (fun X hX hZ hE => ?_)
  subst hX
  have hS0 : St T cn K N d wi_X12_readAlmanac wr_X12_readAlmanac I0 R0 I0 R0 := St.rf0 hW0
  obtain ⟨a1, d2⟩ := nn4
  have ta1 : T a1 = 14 := hW0.rsN ta0 rfl d2
  obtain ⟨v3, c4⟩ : ∃ v, I0 a0 9 = v := ⟨_, rfl⟩
  have b5 := iv15_9 hS0.1 ta0 c4
  obtain ⟨v6, c7⟩ : ∃ v, I0 a0 8 = v := ⟨_, rfl⟩
  have b8 := iv15_8 hS0.1 ta0 c7
  obtain ⟨v9, c10⟩ : ∃ v, I0 a0 13 = v := ⟨_, rfl⟩
  refine tr_aload_n dX12_readAlmanac_0 rfl ?_
  refine tr_getR dX12_readAlmanac_1 fl12_188 (kR15 hS0.1 ta0) d2 ?_
  obtain ⟨v11, c12⟩ : ∃ v, I0 a1 9 = v := ⟨_, rfl⟩
  have b13 := iv14_9 hS0.1 ta1 c12
  refine q_getZ dX12_readAlmanac_4 fl12_302 (kR14 hS0.1 ta1) c12 ?_
  refine q_if_eq 15 dX12_readAlmanac_7 (by decide) (fun h14 => ?_) (fun h14 => ?_)
  · skip
    refine tr_aload_n dX12_readAlmanac_15 rfl ?_
    refine q_iconst dX12_readAlmanac_16 (by decide) ?_
    intro v15 h16
    refine q_iconst dX12_readAlmanac_17 (by decide) ?_
    intro v17 h18
    refine q_callVv hE (M' := mX12_begins) (as := [_, _]) dX12_readAlmanac_18 lk12_268 inX12_begins seX12_begins myX12_begins (by decide) ⟨by decide, by decide⟩ rfl (kR15 hS0.1 ta0) (Nat.le_of_ble_eq_true rfl) rfl rfl (by decide) (by decide) (k_X12_begins hS0.1 ta0 ⟨_, d2⟩) ?_
    rintro cn' K' N' I19 R20 L21 ⟨rfl, rfl, rfl, rfl, g22, p24, p25, p26, p27, p28, -⟩
    have hS29 := hS0.tr g22 (by decide +kernel) (by decide +kernel)
    have c30 : I19 a1 9 = v11 := (g22.cell ta1 (by decide +kernel)).trans c12
    obtain ⟨v31, c32⟩ : ∃ v, I19 a0 9 = v := ⟨_, rfl⟩
    have b33 := iv15_9 hS29.1 ta0 c32
    have p34 := p24
    rw [c4] at p34
    rw [c32] at p34
    obtain ⟨v35, c36⟩ : ∃ v, I19 a0 8 = v := ⟨_, rfl⟩
    have b37 := iv15_8 hS29.1 ta0 c36
    have p38 := p25
    rw [c36] at p38
    rw [c7] at p38
    have p39 := p26
    rw [c32] at p39
    rw [c36] at p39
    rw [c7] at p39
    obtain ⟨v40, c41⟩ : ∃ v, I19 a0 13 = v := ⟨_, rfl⟩
    have p42 := p27
    rw [c4] at p42
    rw [c10] at p42
    rw [c32] at p42
    rw [c41] at p42
    have p43 := p28
    rw [c32] at p43
    refine tr_aload_n dX12_readAlmanac_21 rfl ?_
    refine tr_aload_n dX12_readAlmanac_22 rfl ?_
    refine tr_getR dX12_readAlmanac_23 fl12_188 (kR15 hS29.1 ta0) d2 ?_
    obtain ⟨a44, d45, ta44⟩ := rf14_16 hW0 ta1
    refine tr_getR dX12_readAlmanac_26 fl12_306 (kR14 hS29.1 ta1) d45 ?_
    refine q_iconst dX12_readAlmanac_29 (by decide) ?_
    intro v46 h47
    refine q_bipush dX12_readAlmanac_30 (by decide +kernel) ?_
    intro v48 h49
    refine q_callVi hE (M' := mX12_readRising) (as := [_, _, _]) dX12_readAlmanac_32 lk12_308 inX12_readRising seX12_readRising myX12_readRising (by decide) ⟨by decide, by decide⟩ rfl (kR15 hS29.1 ta0) (Nat.le_of_ble_eq_true rfl) rfl rfl (by decide) (by decide) (k_X12_readRising_1 hS29.1 ta0 ta44 (by omega) (by omega) ⟨_, d2⟩) ?_
    rintro v54 cn' K' N' I50 R51 L52 ⟨rfl, rfl, rfl, rfl, g53, h55, p56, p57, p58, p59, -⟩
    have hS60 := hS29.tr g53 (by decide +kernel) (by decide +kernel)
    have c61 : I50 a1 9 = v11 := (g53.cell ta1 (by decide +kernel)).trans c30
    obtain ⟨v62, c63⟩ : ∃ v, I50 a0 9 = v := ⟨_, rfl⟩
    have b64 := iv15_9 hS60.1 ta0 c63
    have p65 := p56
    rw [c32] at p65
    rw [c63] at p65
    obtain ⟨v66, c67⟩ : ∃ v, I50 a0 8 = v := ⟨_, rfl⟩
    have b68 := iv15_8 hS60.1 ta0 c67
    have p69 := p57
    rw [c67] at p69
    rw [c36] at p69
    have p70 := p58
    rw [c63] at p70
    rw [c67] at p70
    rw [c36] at p70
    obtain ⟨v71, c72⟩ : ∃ v, I50 a0 13 = v := ⟨_, rfl⟩
    have p73 := p59
    rw [c32] at p73
    rw [c41] at p73
    rw [c63] at p73
    rw [c72] at p73
    refine tr_istore_n dX12_readAlmanac_35 (by decide) (by decide) ?_
    refine tr_aload_n dX12_readAlmanac_36 rfl ?_
    refine q_getI dX12_readAlmanac_37 fl12_99 (kR15 hS60.1 ta0) c63 ?_
    refine q_iconst dX12_readAlmanac_40 (by decide) ?_
    intro v74 h75
    refine q_icmp_ne 45 dX12_readAlmanac_41 (by decide) (fun h76 => ?_) (fun h76 => ?_)
    · skip
      refine tr_aload_n dX12_readAlmanac_45 rfl ?_
      refine tr_getR dX12_readAlmanac_46 fl12_188 (kR15 hS60.1 ta0) d2 ?_
      refine tr_iload_n dX12_readAlmanac_49 rfl ?_
      refine q_putI dX12_readAlmanac_50 fl12_312 (kR14 hS60.1 ta1) (Or.inl rfl) hS60 ta1 (by show (0 : Int) ≤ v54.toInt ∧ v54.toInt ≤ (8 : Int); omega) rfl (by decide +kernel) ?_
      intro I77 hS78 e79 f80
      have c81 : I77 a1 9 = v11 := (f80 _ _ (fun q => absurd q.2 (by decide))).trans c61
      have c82 : I77 a0 9 = v62 := (f80 _ _ (fun q => absurd q.2 (by decide))).trans c63
      have c83 : I77 a0 8 = v66 := (f80 _ _ (fun q => by have z := ta0; rw [q.1, ta1] at z; exact absurd z (by decide))).trans c67
      have c84 : I77 a0 13 = v71 := (f80 _ _ (fun q => absurd q.2 (by decide))).trans c72
      refine tr_aload_n dX12_readAlmanac_53 rfl ?_
      refine tr_getR dX12_readAlmanac_54 fl12_188 (kR15 hS78.1 ta0) d2 ?_
      refine q_iconst dX12_readAlmanac_57 (by decide) ?_
      intro v85 h86
      refine q_putZ dX12_readAlmanac_58 fl12_302 (kR14 hS78.1 ta1) (Or.inl rfl) hS78 ta1 (by omega) (by show (0 : Int) ≤ v85.toInt ∧ v85.toInt ≤ (1 : Int); omega) rfl (by decide +kernel) ?_
      intro I87 hS88 e89 f90
      have c91 : I87 a0 9 = v62 := (f90 _ _ (fun q => by have z := ta0; rw [q.1, ta1] at z; exact absurd z (by decide))).trans c82
      have c92 : I87 a0 8 = v66 := (f90 _ _ (fun q => absurd q.2 (by decide))).trans c83
      have c93 : I87 a0 13 = v71 := (f90 _ _ (fun q => absurd q.2 (by decide))).trans c84
      have c94 : I87 a1 8 = v54 := (f90 _ _ (fun q => absurd q.2 (by decide))).trans e79
      exact tr_vret hZ dX12_readAlmanac_61 rfl (by decide) (by decide) ⟨rfl, rfl, rfl, rfl, rfl, hS88, (by (try rw [c4]); (try rw [c91]); (try omega)), (by (try rw [c92]); (try rw [c7]); (try omega)), (by (try rw [c91]); (try rw [c92]); (try rw [c7]); (try omega)), (by (try rw [c4]); (try rw [c10]); (try rw [c91]); (try rw [c93]); (try omega)), trivial⟩
    · skip
      exact tr_vret hZ dX12_readAlmanac_44 rfl (by decide) (by decide) ⟨rfl, rfl, rfl, rfl, rfl, hS60, (by (try rw [c4]); (try rw [c63]); (try omega)), (by (try rw [c67]); (try rw [c7]); (try omega)), (by (try rw [c63]); (try rw [c67]); (try rw [c7]); (try omega)), (by (try rw [c4]); (try rw [c10]); (try rw [c63]); (try rw [c72]); (try omega)), trivial⟩
  · skip
    refine tr_aload_n dX12_readAlmanac_10 rfl ?_
    refine q_iconst dX12_readAlmanac_11 (by decide) ?_
    intro v95 h96
    refine q_callVv hE (M' := mX12_flaw) (as := [_]) dX12_readAlmanac_12 lk12_145 inX12_flaw seX12_flaw myX12_flaw (by decide) ⟨by decide, by decide⟩ rfl (kR15 hS0.1 ta0) (Nat.le_of_ble_eq_true rfl) rfl rfl (by decide) (by decide) (k_X12_flaw hS0.1 ta0 (by omega)) ?_
    rintro cn' K' N' I97 R98 L99 ⟨rfl, rfl, rfl, rfl, rfl, g100, p102, p103, -⟩
    have hS104 := hS0.tr g100 (by decide +kernel) (by decide +kernel)
    have c105 : I97 a0 8 = v6 := (g100.cell ta0 (by decide +kernel)).trans c7
    have c106 : I97 a1 9 = v11 := (g100.cell ta1 (by decide +kernel)).trans c12
    obtain ⟨v107, c108⟩ : ∃ v, I97 a0 9 = v := ⟨_, rfl⟩
    have b109 := iv15_9 hS104.1 ta0 c108
    have p110 := p102
    rw [c108] at p110
    obtain ⟨v111, c112⟩ : ∃ v, I97 a0 13 = v := ⟨_, rfl⟩
    have p113 := p103
    rw [c4] at p113
    rw [c10] at p113
    rw [c112] at p113
    refine tr_aload_n dX12_readAlmanac_15 rfl ?_
    refine q_iconst dX12_readAlmanac_16 (by decide) ?_
    intro v114 h115
    refine q_iconst dX12_readAlmanac_17 (by decide) ?_
    intro v116 h117
    refine q_callVv hE (M' := mX12_begins) (as := [_, _]) dX12_readAlmanac_18 lk12_268 inX12_begins seX12_begins myX12_begins (by decide) ⟨by decide, by decide⟩ rfl (kR15 hS104.1 ta0) (Nat.le_of_ble_eq_true rfl) rfl rfl (by decide) (by decide) (k_X12_begins hS104.1 ta0 ⟨_, d2⟩) ?_
    rintro cn' K' N' I118 R119 L120 ⟨rfl, rfl, rfl, rfl, g121, p123, p124, p125, p126, p127, -⟩
    have hS128 := hS104.tr g121 (by decide +kernel) (by decide +kernel)
    have c129 : I118 a1 9 = v11 := (g121.cell ta1 (by decide +kernel)).trans c106
    obtain ⟨v130, c131⟩ : ∃ v, I118 a0 9 = v := ⟨_, rfl⟩
    have b132 := iv15_9 hS128.1 ta0 c131
    have p133 := p123
    rw [c108] at p133
    rw [c131] at p133
    obtain ⟨v134, c135⟩ : ∃ v, I118 a0 8 = v := ⟨_, rfl⟩
    have b136 := iv15_8 hS128.1 ta0 c135
    have p137 := p124
    rw [c135] at p137
    rw [c105] at p137
    have p138 := p125
    rw [c131] at p138
    rw [c135] at p138
    rw [c105] at p138
    obtain ⟨v139, c140⟩ : ∃ v, I118 a0 13 = v := ⟨_, rfl⟩
    have p141 := p126
    rw [c108] at p141
    rw [c112] at p141
    rw [c131] at p141
    rw [c140] at p141
    have p142 := p127
    rw [c131] at p142
    refine tr_aload_n dX12_readAlmanac_21 rfl ?_
    refine tr_aload_n dX12_readAlmanac_22 rfl ?_
    refine tr_getR dX12_readAlmanac_23 fl12_188 (kR15 hS128.1 ta0) d2 ?_
    obtain ⟨a143, d144, ta143⟩ := rf14_16 hW0 ta1
    refine tr_getR dX12_readAlmanac_26 fl12_306 (kR14 hS128.1 ta1) d144 ?_
    refine q_iconst dX12_readAlmanac_29 (by decide) ?_
    intro v145 h146
    refine q_bipush dX12_readAlmanac_30 (by decide +kernel) ?_
    intro v147 h148
    refine q_callVi hE (M' := mX12_readRising) (as := [_, _, _]) dX12_readAlmanac_32 lk12_308 inX12_readRising seX12_readRising myX12_readRising (by decide) ⟨by decide, by decide⟩ rfl (kR15 hS128.1 ta0) (Nat.le_of_ble_eq_true rfl) rfl rfl (by decide) (by decide) (k_X12_readRising_1 hS128.1 ta0 ta143 (by omega) (by omega) ⟨_, d2⟩) ?_
    rintro v153 cn' K' N' I149 R150 L151 ⟨rfl, rfl, rfl, rfl, g152, h154, p155, p156, p157, p158, -⟩
    have hS159 := hS128.tr g152 (by decide +kernel) (by decide +kernel)
    have c160 : I149 a1 9 = v11 := (g152.cell ta1 (by decide +kernel)).trans c129
    obtain ⟨v161, c162⟩ : ∃ v, I149 a0 9 = v := ⟨_, rfl⟩
    have b163 := iv15_9 hS159.1 ta0 c162
    have p164 := p155
    rw [c131] at p164
    rw [c162] at p164
    obtain ⟨v165, c166⟩ : ∃ v, I149 a0 8 = v := ⟨_, rfl⟩
    have b167 := iv15_8 hS159.1 ta0 c166
    have p168 := p156
    rw [c166] at p168
    rw [c135] at p168
    have p169 := p157
    rw [c162] at p169
    rw [c166] at p169
    rw [c135] at p169
    obtain ⟨v170, c171⟩ : ∃ v, I149 a0 13 = v := ⟨_, rfl⟩
    have p172 := p158
    rw [c131] at p172
    rw [c140] at p172
    rw [c162] at p172
    rw [c171] at p172
    refine tr_istore_n dX12_readAlmanac_35 (by decide) (by decide) ?_
    refine tr_aload_n dX12_readAlmanac_36 rfl ?_
    refine q_getI dX12_readAlmanac_37 fl12_99 (kR15 hS159.1 ta0) c162 ?_
    refine q_iconst dX12_readAlmanac_40 (by decide) ?_
    intro v173 h174
    refine q_icmp_ne 45 dX12_readAlmanac_41 (by decide) (fun h175 => ?_) (fun h175 => ?_)
    · skip
      exfalso; omega
    · skip
      exact tr_vret hZ dX12_readAlmanac_44 rfl (by decide) (by decide) ⟨rfl, rfl, rfl, rfl, rfl, hS159, (by (try rw [c4]); (try rw [c162]); (try omega)), (by (try rw [c166]); (try rw [c7]); (try omega)), (by (try rw [c162]); (try rw [c166]); (try rw [c7]); (try omega)), (by (try rw [c4]); (try rw [c10]); (try rw [c162]); (try rw [c171]); (try omega)), trivial⟩
def wi_X12_readCheese : List Nat := [899, 903, 968, 969, 970, 971, 972, 973, 974, 3775, 4031, 4799, 4863]
def wr_X12_readCheese : List Nat := []
set_option maxHeartbeats 4000000 in
theorem k_X12_readCheese {l : Launch} {T : Nat → Nat} {cn : Nat} {K N : Nat → Nat} {I0 : cz_I} {R0 : cz_R} {L0 : cz_L} (hW0 : Wf T cn K N I0 R0 0) {a0 : Nat} (ta0 : T a0 = 15) (nn4 : ∃ b, R0 a0 4 = some b) : ConE l mX12_readCheese [.ref a0] cn K N I0 R0 L0 (ca_v (fun cn' K' N' I' R' L' => cn = cn' ∧ K = K' ∧ N = N' ∧ R0 = R' ∧ St T cn K N 0 wi_X12_readCheese wr_X12_readCheese I0 R0 I' R0 ∧ (((I0 a0 9).toInt = 5 → (I' a0 9).toInt = 5)) ∧ ((I' a0 8).toInt ≥ (I0 a0 8).toInt) ∧ (((2 ≤ (I' a0 9).toInt ∧ (I' a0 9).toInt ≤ 4) → (I' a0 8).toInt ≥ (I0 a0 8).toInt + 1)) ∧ ((((I0 a0 9).toInt = 5 → (I0 a0 13).toInt ≥ 1) → ((I' a0 9).toInt = 5 → (I' a0 13).toInt ≥ 1))) ∧ True)) := by
  refine ConE.of (by decide +kernel) rfl (Nat.le_of_ble_eq_true rfl) rfl (fun X hX hZ hE => ?_)
  subst hX
  have hS0 : St T cn K N 0 wi_X12_readCheese wr_X12_readCheese I0 R0 I0 R0 := St.rf0 hW0
  obtain ⟨a1, d2⟩ := nn4
  have ta1 : T a1 = 14 := hW0.rsN ta0 rfl d2
  obtain ⟨v3, c4⟩ : ∃ v, I0 a0 9 = v := ⟨_, rfl⟩
  have b5 := iv15_9 hS0.1 ta0 c4
  obtain ⟨v6, c7⟩ : ∃ v, I0 a0 8 = v := ⟨_, rfl⟩
  have b8 := iv15_8 hS0.1 ta0 c7
  obtain ⟨v9, c10⟩ : ∃ v, I0 a0 13 = v := ⟨_, rfl⟩
  refine tr_aload_n dX12_readCheese_0 rfl ?_
  refine tr_aload_n dX12_readCheese_1 rfl ?_
  refine tr_getR dX12_readCheese_2 fl12_188 (kR15 hS0.1 ta0) d2 ?_
  obtain ⟨v11, c12⟩ : ∃ v, I0 a1 3 = v := ⟨_, rfl⟩
  have b13 := iv14_3 hS0.1 ta1 c12
  refine q_getI dX12_readCheese_5 fl12_224 (kR14 hS0.1 ta1) c12 ?_
  refine q_bipush dX12_readCheese_8 (by decide +kernel) ?_
  intro v14 h15
  refine q_callVv hE (M' := mX12_begins) (as := [_, _]) dX12_readCheese_10 lk12_268 inX12_begins seX12_begins myX12_begins (by decide) ⟨by decide, by decide⟩ rfl (kR15 hS0.1 ta0) (Nat.le_of_ble_eq_true rfl) rfl rfl (by decide) (by decide) (k_X12_begins hS0.1 ta0 ⟨_, d2⟩) ?_
  rintro cn' K' N' I16 R17 L18 ⟨rfl, rfl, rfl, rfl, g19, p21, p22, p23, p24, p25, -⟩
  have hS26 := hS0.tr g19 (by decide +kernel) (by decide +kernel)
  have c27 : I16 a1 3 = v11 := (g19.cell ta1 (by decide +kernel)).trans c12
  obtain ⟨v28, c29⟩ : ∃ v, I16 a0 9 = v := ⟨_, rfl⟩
  have b30 := iv15_9 hS26.1 ta0 c29
  have p31 := p21
  rw [c4] at p31
  rw [c29] at p31
  obtain ⟨v32, c33⟩ : ∃ v, I16 a0 8 = v := ⟨_, rfl⟩
  have b34 := iv15_8 hS26.1 ta0 c33
  have p35 := p22
  rw [c33] at p35
  rw [c7] at p35
  have p36 := p23
  rw [c29] at p36
  rw [c33] at p36
  rw [c7] at p36
  obtain ⟨v37, c38⟩ : ∃ v, I16 a0 13 = v := ⟨_, rfl⟩
  have p39 := p24
  rw [c4] at p39
  rw [c10] at p39
  rw [c29] at p39
  rw [c38] at p39
  have p40 := p25
  rw [c29] at p40
  refine tr_aload_n dX12_readCheese_13 rfl ?_
  refine q_callVl hE (M' := mX12_readFresh) (as := []) dX12_readCheese_14 lk12_285 inX12_readFresh seX12_readFresh myX12_readFresh (by decide) ⟨by decide, by decide⟩ rfl (kR15 hS26.1 ta0) (Nat.le_of_ble_eq_true rfl) rfl rfl (by decide) (by decide) (k_X12_readFresh hS26.1 ta0 ⟨_, d2⟩) ?_
  rintro y45 cn' K' N' I41 R42 L43 ⟨rfl, rfl, rfl, rfl, g44, p46, p47, p48, p49, -⟩
  have hS50 := hS26.tr g44 (by decide +kernel) (by decide +kernel)
  have c51 : I41 a1 3 = v11 := (g44.cell ta1 (by decide +kernel)).trans c27
  obtain ⟨v52, c53⟩ : ∃ v, I41 a0 9 = v := ⟨_, rfl⟩
  have b54 := iv15_9 hS50.1 ta0 c53
  have p55 := p46
  rw [c29] at p55
  rw [c53] at p55
  obtain ⟨v56, c57⟩ : ∃ v, I41 a0 8 = v := ⟨_, rfl⟩
  have b58 := iv15_8 hS50.1 ta0 c57
  have p59 := p47
  rw [c57] at p59
  rw [c33] at p59
  have p60 := p48
  rw [c53] at p60
  rw [c57] at p60
  rw [c33] at p60
  obtain ⟨v61, c62⟩ : ∃ v, I41 a0 13 = v := ⟨_, rfl⟩
  have p63 := p49
  rw [c29] at p63
  rw [c38] at p63
  rw [c53] at p63
  rw [c62] at p63
  refine tr_lstore_n dX12_readCheese_17 (by decide) (by decide) (by decide) ?_
  refine tr_aload_n dX12_readCheese_18 rfl ?_
  refine tr_ldcwS dX12_readCheese_19 ld12_289 ?_
  refine q_iconst dX12_readCheese_22 (by decide) ?_
  intro v64 h65
  refine tr_aload_n dX12_readCheese_23 rfl ?_
  refine tr_getR dX12_readCheese_24 fl12_188 (kR15 hS50.1 ta0) d2 ?_
  obtain ⟨v66, c67⟩ : ∃ v, I0 a1 1 = v := ⟨_, rfl⟩
  have b68 := iv14_1 hW0 ta1 c67
  refine q_getI dX12_readCheese_27 fl12_263 (kR14 hS50.1 ta1) ((hS50.cell ta1 (by decide +kernel)).trans c67) ?_
  refine q_iconst dX12_readCheese_30 (by decide) ?_
  intro v69 h70
  refine q_isubE dX12_readCheese_31 (by intros; omega) ?_
  intro v71 h72
  refine q_callVi hE (M' := mX12_readPart) (as := [_, _, _]) dX12_readCheese_32 lk12_249 inX12_readPart seX12_readPart myX12_readPart (by decide) ⟨by decide, by decide⟩ rfl (kR15 hS50.1 ta0) (Nat.le_of_ble_eq_true rfl) rfl rfl (by decide) (by decide) (k_X12_readPart hS50.1 ta0 (by decide)) ?_
  rintro v77 cn' K' N' I73 R74 L75 ⟨rfl, rfl, rfl, rfl, g76, p78, p79, p80, p81, p82, -⟩
  have hS83 := hS50.tr g76 (by decide +kernel) (by decide +kernel)
  have c84 : I73 a1 3 = v11 := (g76.cell ta1 (by decide +kernel)).trans c51
  obtain ⟨v85, c86⟩ : ∃ v, I73 a0 9 = v := ⟨_, rfl⟩
  have b87 := iv15_9 hS83.1 ta0 c86
  have p88 := p78
  rw [c53] at p88
  rw [c86] at p88
  obtain ⟨v89, c90⟩ : ∃ v, I73 a0 8 = v := ⟨_, rfl⟩
  have b91 := iv15_8 hS83.1 ta0 c90
  have p92 := p79
  rw [c90] at p92
  rw [c57] at p92
  have p93 := p80
  rw [c86] at p93
  rw [c90] at p93
  rw [c57] at p93
  obtain ⟨v94, c95⟩ : ∃ v, I73 a0 13 = v := ⟨_, rfl⟩
  have p96 := p81
  rw [c53] at p96
  rw [c62] at p96
  rw [c86] at p96
  rw [c95] at p96
  have p97 := p82
  refine tr_istore_n dX12_readCheese_35 (by decide) (by decide) ?_
  refine tr_aload_n dX12_readCheese_36 rfl ?_
  refine tr_ldcS dX12_readCheese_37 ld12_186 ?_
  refine q_callVi hE (M' := mX12_eatsWord) (as := [_]) dX12_readCheese_39 lk12_290 inX12_eatsWord seX12_eatsWord myX12_eatsWord (by decide) ⟨by decide, by decide⟩ rfl (kR15 hS83.1 ta0) (Nat.le_of_ble_eq_true rfl) rfl rfl (by decide) (by decide) (k_X12_eatsWord hS83.1 ta0 (by decide)) ?_
  rintro v102 cn' K' N' I98 R99 L100 ⟨rfl, rfl, rfl, rfl, g101, h103, p104, p105, p106, -⟩
  have hS107 := hS83.tr g101 (by decide +kernel) (by decide +kernel)
  have c108 : I98 a1 3 = v11 := (g101.cell ta1 (by decide +kernel)).trans c84
  have c109 : I98 a0 13 = v94 := (g101.cell ta0 (by decide +kernel)).trans c95
  obtain ⟨v110, c111⟩ : ∃ v, I98 a0 9 = v := ⟨_, rfl⟩
  have b112 := iv15_9 hS107.1 ta0 c111
  obtain ⟨v113, c114⟩ : ∃ v, I98 a0 8 = v := ⟨_, rfl⟩
  have b115 := iv15_8 hS107.1 ta0 c114
  have p116 := p104
  rw [c111] at p116
  rw [c86] at p116
  rw [c114] at p116
  rw [c90] at p116
  have p117 := p105
  rw [c86] at p117
  rw [c111] at p117
  rw [c114] at p117
  rw [c90] at p117
  have p118 := p106
  rw [c111] at p118
  rw [c114] at p118
  rw [c90] at p118
  refine tr_istore dX12_readCheese_42 (by decide) (by decide) ?_
  refine tr_aload_n dX12_readCheese_44 rfl ?_
  refine q_getI dX12_readCheese_45 fl12_99 (kR15 hS107.1 ta0) c111 ?_
  refine q_iconst dX12_readCheese_48 (by decide) ?_
  intro v119 h120
  refine q_icmp_ne 53 dX12_readCheese_49 (by decide) (fun h121 => ?_) (fun h121 => ?_)
  · skip
    refine tr_aload_n dX12_readCheese_53 rfl ?_
    refine tr_lload_n dX12_readCheese_54 rfl ?_
    refine q_iconst dX12_readCheese_55 (by decide) ?_
    intro v122 h123
    refine tr_aload_n dX12_readCheese_56 rfl ?_
    refine tr_getR dX12_readCheese_57 fl12_188 (kR15 hS107.1 ta0) d2 ?_
    refine q_getI dX12_readCheese_60 fl12_224 (kR14 hS107.1 ta1) c108 ?_
    obtain ⟨v125, c126⟩ : ∃ v, I98 a1 7 = v := ⟨_, rfl⟩
    have b127 := iv14_7 hS107.1 ta1 c126
    obtain ⟨v128, c129⟩ : ∃ v, I0 a1 4 = v := ⟨_, rfl⟩
    have b130 := iv14_4 hW0 ta1 c129
    have p124 := hS107.1.2.2.2.2.1 a0 ta0 _ d2
    rw [c126, c108, ((hS107.cell ta1 (by decide +kernel)).trans c129)] at p124
    refine q_callVv hE (M' := mX12_names) (as := [_, _, _]) dX12_readCheese_63 lk12_293 inX12_names seX12_names myX12_names (by decide) ⟨by decide, by decide⟩ rfl (kR15 hS107.1 ta0) (Nat.le_of_ble_eq_true rfl) rfl rfl (by decide) (by decide) (k_X12_names hS107.1 ta0 (fun q0 z0 => by obtain rfl := Option.some.inj ((d2).symm.trans z0); (try rw [c126]); (try omega)) ⟨_, d2⟩) ?_
    rintro cn' K' N' I131 R132 L133 ⟨rfl, rfl, rfl, rfl, g134, -⟩
    have hS136 := hS107.tr g134 (by decide +kernel) (by decide +kernel)
    have c137 : I131 a1 3 = v11 := (g134.cell ta1 (by decide +kernel)).trans c108
    have c138 : I131 a0 13 = v94 := (g134.cell ta0 (by decide +kernel)).trans c109
    have c139 : I131 a0 9 = v110 := (g134.cell ta0 (by decide +kernel)).trans c111
    have c140 : I131 a0 8 = v113 := (g134.cell ta0 (by decide +kernel)).trans c114
    refine tr_aload_n dX12_readCheese_66 rfl ?_
    refine tr_getR dX12_readCheese_67 fl12_188 (kR15 hS136.1 ta0) d2 ?_
    obtain ⟨a141, d142, ta141⟩ := rf14_15 hW0 ta1
    refine tr_getR dX12_readCheese_70 fl12_296 (kR14 hS136.1 ta1) d142 ?_
    refine tr_aload_n dX12_readCheese_73 rfl ?_
    refine tr_getR dX12_readCheese_74 fl12_188 (kR15 hS136.1 ta0) d2 ?_
    refine q_getI dX12_readCheese_77 fl12_224 (kR14 hS136.1 ta1) c137 ?_
    refine tr_iload_n dX12_readCheese_80 rfl ?_
    refine q_iast dX12_readCheese_81 (kR58 hS136.1 ta141) (ti_in (nR58 hS136.1 ta141) (by omega) (by omega)) hS136 ta141 (by show (0 : Int) ≤ v77.toInt ∧ v77.toInt ≤ (3 : Int); omega) rfl (by rfl) ?_
    intro I143 hS144 e146 f145
    have c147 : I143 a1 3 = v11 := (f145 _ _ (fun q => by have z := ta1; rw [q.1, ta141] at z; exact absurd z (by decide))).trans c137
    have c148 : I143 a0 13 = v94 := (f145 _ _ (fun q => by have z := ta0; rw [q.1, ta141] at z; exact absurd z (by decide))).trans c138
    have c149 : I143 a0 9 = v110 := (f145 _ _ (fun q => by have z := ta0; rw [q.1, ta141] at z; exact absurd z (by decide))).trans c139
    have c150 : I143 a0 8 = v113 := (f145 _ _ (fun q => by have z := ta0; rw [q.1, ta141] at z; exact absurd z (by decide))).trans c140
    refine tr_aload_n dX12_readCheese_82 rfl ?_
    refine tr_getR dX12_readCheese_83 fl12_188 (kR15 hS144.1 ta0) d2 ?_
    obtain ⟨a151, d152, ta151⟩ := rf14_19 hW0 ta1
    refine tr_getR dX12_readCheese_86 fl12_299 (kR14 hS144.1 ta1) d152 ?_
    refine tr_aload_n dX12_readCheese_89 rfl ?_
    refine tr_getR dX12_readCheese_90 fl12_188 (kR15 hS144.1 ta0) d2 ?_
    refine q_getI dX12_readCheese_93 fl12_224 (kR14 hS144.1 ta1) c147 ?_
    refine tr_iload dX12_readCheese_96 rfl ?_
    refine q_zast dX12_readCheese_98 (kR62 hS144.1 ta151) (ti_in (nR62 hS144.1 ta151) (by omega) (by omega)) hS144 ta151 (by omega) rfl rfl (by rfl) ?_
    intro I153 hS154 f155
    have c157 : I153 a1 3 = v11 := (f155 _ _ (fun q => by have z := ta1; rw [q.1, ta151] at z; exact absurd z (by decide))).trans c147
    have c158 : I153 a0 13 = v94 := (f155 _ _ (fun q => by have z := ta0; rw [q.1, ta151] at z; exact absurd z (by decide))).trans c148
    have c159 : I153 a0 9 = v110 := (f155 _ _ (fun q => by have z := ta0; rw [q.1, ta151] at z; exact absurd z (by decide))).trans c149
    have c160 : I153 a0 8 = v113 := (f155 _ _ (fun q => by have z := ta0; rw [q.1, ta151] at z; exact absurd z (by decide))).trans c150
    refine tr_aload_n dX12_readCheese_99 rfl ?_
    refine tr_getR dX12_readCheese_100 fl12_188 (kR15 hS154.1 ta0) d2 ?_
    refine tr_dup dX12_readCheese_103 rfl ?_
    refine q_getI dX12_readCheese_104 fl12_224 (kR14 hS154.1 ta1) c157 ?_
    refine q_iconst dX12_readCheese_107 (by decide) ?_
    intro v161 h162
    refine q_iaddE dX12_readCheese_108 (by intros; omega) ?_
    intro v163 h164
    refine q_putX dX12_readCheese_109 fl12_224 (kR14 hS154.1 ta1) (Or.inl rfl) hS154 ta1 (by decide +kernel) (hS154.1.putN (d' := 0) ta0 d2 (Or.inr (Or.inl rfl)) (by rw [c157]; omega) (by decide) (by show (0 : Int) ≤ v163.toInt ∧ v163.toInt ≤ (8 : Int); omega)) ?_
    intro I165 hS166 e167 f168
    have c169 : I165 a0 13 = v94 := (f168 _ _ (fun q => absurd q.2 (by decide))).trans c158
    have c170 : I165 a0 9 = v110 := (f168 _ _ (fun q => absurd q.2 (by decide))).trans c159
    have c171 : I165 a0 8 = v113 := (f168 _ _ (fun q => absurd q.2 (by decide))).trans c160
    exact tr_vret hZ dX12_readCheese_112 rfl (by decide) (by decide) ⟨rfl, rfl, rfl, rfl, rfl, hS166, (by (try rw [c4]); (try rw [c170]); (try omega)), (by (try rw [c171]); (try rw [c7]); (try omega)), (by (try rw [c170]); (try rw [c171]); (try rw [c7]); (try omega)), (by (try rw [c4]); (try rw [c10]); (try rw [c170]); (try rw [c169]); (try omega)), trivial⟩
  · skip
    exact tr_vret hZ dX12_readCheese_52 rfl (by decide) (by decide) ⟨rfl, rfl, rfl, rfl, rfl, hS107, (by (try rw [c4]); (try rw [c111]); (try omega)), (by (try rw [c114]); (try rw [c7]); (try omega)), (by (try rw [c111]); (try rw [c114]); (try rw [c7]); (try omega)), (by (try rw [c4]); (try rw [c10]); (try rw [c111]); (try rw [c109]); (try omega)), trivial⟩
def wi_X12_readEvent : List Nat := [898, 968, 969, 970, 971, 972, 973, 974, 3519, 3583, 3647, 3711]
def wr_X12_readEvent : List Nat := []
set_option maxHeartbeats 4000000 in
theorem k_X12_readEvent {l : Launch} {T : Nat → Nat} {cn : Nat} {K N : Nat → Nat} {I0 : cz_I} {R0 : cz_R} {L0 : cz_L} {d : Int} (hW0 : Wf T cn K N I0 R0 d) {a0 : Nat} (ta0 : T a0 = 15) {x1 : Int32} (hx1 : 0 ≤ x1.toInt ∧ x1.toInt ≤ 4) (nn4 : ∃ b, R0 a0 4 = some b) : ConE l mX12_readEvent [.ref a0, .int x1] cn K N I0 R0 L0 (ca_v (fun cn' K' N' I' R' L' => cn = cn' ∧ K = K' ∧ N = N' ∧ R0 = R' ∧ St T cn K N d wi_X12_readEvent wr_X12_readEvent I0 R0 I' R0 ∧ (((I0 a0 9).toInt = 5 → (I' a0 9).toInt = 5)) ∧ ((I' a0 8).toInt ≥ (I0 a0 8).toInt) ∧ (((2 ≤ (I' a0 9).toInt ∧ (I' a0 9).toInt ≤ 4) → (I' a0 8).toInt ≥ (I0 a0 8).toInt + 1)) ∧ ((((I0 a0 9).toInt = 5 → (I0 a0 13).toInt ≥ 1) → ((I' a0 9).toInt = 5 → (I' a0 13).toInt ≥ 1))) ∧ True)) := by
  refine ConE.of (by decide +kernel) rfl (Nat.le_of_ble_eq_true rfl) rfl (fun X hX hZ hE => ?_)
  subst hX
  have hS0 : St T cn K N d wi_X12_readEvent wr_X12_readEvent I0 R0 I0 R0 := St.rf0 hW0
  obtain ⟨a1, d2⟩ := nn4
  have ta1 : T a1 = 14 := hW0.rsN ta0 rfl d2
  obtain ⟨v3, c4⟩ : ∃ v, I0 a0 9 = v := ⟨_, rfl⟩
  have b5 := iv15_9 hS0.1 ta0 c4
  obtain ⟨v6, c7⟩ : ∃ v, I0 a0 8 = v := ⟨_, rfl⟩
  have b8 := iv15_8 hS0.1 ta0 c7
  obtain ⟨v9, c10⟩ : ∃ v, I0 a0 13 = v := ⟨_, rfl⟩
  refine tr_aload_n dX12_readEvent_0 rfl ?_
  refine tr_aload_n dX12_readEvent_1 rfl ?_
  refine tr_getR dX12_readEvent_2 fl12_188 (kR15 hS0.1 ta0) d2 ?_
  obtain ⟨v11, c12⟩ : ∃ v, I0 a1 2 = v := ⟨_, rfl⟩
  have b13 := iv14_2 hS0.1 ta1 c12
  refine q_getI dX12_readEvent_5 fl12_265 (kR14 hS0.1 ta1) c12 ?_
  refine q_bipush dX12_readEvent_8 (by decide +kernel) ?_
  intro v14 h15
  refine q_callVv hE (M' := mX12_begins) (as := [_, _]) dX12_readEvent_10 lk12_268 inX12_begins seX12_begins myX12_begins (by decide) ⟨by decide, by decide⟩ rfl (kR15 hS0.1 ta0) (Nat.le_of_ble_eq_true rfl) rfl rfl (by decide) (by decide) (k_X12_begins hS0.1 ta0 ⟨_, d2⟩) ?_
  rintro cn' K' N' I16 R17 L18 ⟨rfl, rfl, rfl, rfl, g19, p21, p22, p23, p24, p25, -⟩
  have hS26 := hS0.tr g19 (by decide +kernel) (by decide +kernel)
  have c27 : I16 a1 2 = v11 := (g19.cell ta1 (by decide +kernel)).trans c12
  obtain ⟨v28, c29⟩ : ∃ v, I16 a0 9 = v := ⟨_, rfl⟩
  have b30 := iv15_9 hS26.1 ta0 c29
  have p31 := p21
  rw [c4] at p31
  rw [c29] at p31
  obtain ⟨v32, c33⟩ : ∃ v, I16 a0 8 = v := ⟨_, rfl⟩
  have b34 := iv15_8 hS26.1 ta0 c33
  have p35 := p22
  rw [c33] at p35
  rw [c7] at p35
  have p36 := p23
  rw [c29] at p36
  rw [c33] at p36
  rw [c7] at p36
  obtain ⟨v37, c38⟩ : ∃ v, I16 a0 13 = v := ⟨_, rfl⟩
  have p39 := p24
  rw [c4] at p39
  rw [c10] at p39
  rw [c29] at p39
  rw [c38] at p39
  have p40 := p25
  rw [c29] at p40
  refine tr_iload_n dX12_readEvent_13 rfl ?_
  refine q_iconst dX12_readEvent_14 (by decide) ?_
  intro v41 h42
  refine q_icmp_eq 23 dX12_readEvent_15 (by decide) (fun h43 => ?_) (fun h43 => ?_)
  · skip
    refine tr_aload_n dX12_readEvent_23 rfl ?_
    refine q_iconst dX12_readEvent_24 (by decide) ?_
    intro v44 h45
    refine tr_aload_n dX12_readEvent_25 rfl ?_
    refine tr_getR dX12_readEvent_26 fl12_188 (kR15 hS26.1 ta0) d2 ?_
    obtain ⟨v46, c47⟩ : ∃ v, I0 a1 1 = v := ⟨_, rfl⟩
    have b48 := iv14_1 hW0 ta1 c47
    refine q_getI dX12_readEvent_29 fl12_263 (kR14 hS26.1 ta1) ((hS26.cell ta1 (by decide +kernel)).trans c47) ?_
    refine q_iconst dX12_readEvent_32 (by decide) ?_
    intro v49 h50
    refine q_isubE dX12_readEvent_33 (by intros; omega) ?_
    intro v51 h52
    refine q_callVi hE (M' := mX12_readWhole) (as := [_, _]) dX12_readEvent_34 lk12_161 inX12_readWhole seX12_readWhole myX12_readWhole (by decide) ⟨by decide, by decide⟩ rfl (kR15 hS26.1 ta0) (Nat.le_of_ble_eq_true rfl) rfl rfl (by decide) (by decide) (k_X12_readWhole hS26.1 ta0) ?_
    rintro v57 cn' K' N' I53 R54 L55 ⟨rfl, rfl, rfl, rfl, g56, p58, p59, p60, p61, p62, -⟩
    have hS63 := hS26.tr g56 (by decide +kernel) (by decide +kernel)
    have c64 : I53 a1 2 = v11 := (g56.cell ta1 (by decide +kernel)).trans c27
    obtain ⟨v65, c66⟩ : ∃ v, I53 a0 9 = v := ⟨_, rfl⟩
    have b67 := iv15_9 hS63.1 ta0 c66
    have p68 := p58
    rw [c29] at p68
    rw [c66] at p68
    obtain ⟨v69, c70⟩ : ∃ v, I53 a0 8 = v := ⟨_, rfl⟩
    have b71 := iv15_8 hS63.1 ta0 c70
    have p72 := p59
    rw [c70] at p72
    rw [c33] at p72
    have p73 := p60
    rw [c66] at p73
    rw [c70] at p73
    rw [c33] at p73
    obtain ⟨v74, c75⟩ : ∃ v, I53 a0 13 = v := ⟨_, rfl⟩
    have p76 := p61
    rw [c29] at p76
    rw [c38] at p76
    rw [c66] at p76
    rw [c75] at p76
    have p77 := p62
    refine tr_goto 42 dX12_readEvent_37 (by decide) ?_
    refine tr_istore_n dX12_readEvent_42 (by decide) (by decide) ?_
    refine tr_aload_n dX12_readEvent_43 rfl ?_
    refine q_iconst dX12_readEvent_44 (by decide) ?_
    intro v78 h79
    refine tr_aload_n dX12_readEvent_45 rfl ?_
    refine tr_getR dX12_readEvent_46 fl12_188 (kR15 hS63.1 ta0) d2 ?_
    obtain ⟨v80, c81⟩ : ∃ v, I0 a1 0 = v := ⟨_, rfl⟩
    have b82 := iv14_0 hW0 ta1 c81
    refine q_getI dX12_readEvent_49 fl12_192 (kR14 hS63.1 ta1) ((hS63.cell ta1 (by decide +kernel)).trans c81) ?_
    refine q_iconst dX12_readEvent_52 (by decide) ?_
    intro v83 h84
    refine q_isubE dX12_readEvent_53 (by intros; omega) ?_
    intro v85 h86
    refine q_callVi hE (M' := mX12_readWhole) (as := [_, _]) dX12_readEvent_54 lk12_161 inX12_readWhole seX12_readWhole myX12_readWhole (by decide) ⟨by decide, by decide⟩ rfl (kR15 hS63.1 ta0) (Nat.le_of_ble_eq_true rfl) rfl rfl (by decide) (by decide) (k_X12_readWhole hS63.1 ta0) ?_
    rintro v91 cn' K' N' I87 R88 L89 ⟨rfl, rfl, rfl, rfl, g90, p92, p93, p94, p95, p96, -⟩
    have hS97 := hS63.tr g90 (by decide +kernel) (by decide +kernel)
    have c98 : I87 a1 2 = v11 := (g90.cell ta1 (by decide +kernel)).trans c64
    obtain ⟨v99, c100⟩ : ∃ v, I87 a0 9 = v := ⟨_, rfl⟩
    have b101 := iv15_9 hS97.1 ta0 c100
    have p102 := p92
    rw [c66] at p102
    rw [c100] at p102
    obtain ⟨v103, c104⟩ : ∃ v, I87 a0 8 = v := ⟨_, rfl⟩
    have b105 := iv15_8 hS97.1 ta0 c104
    have p106 := p93
    rw [c104] at p106
    rw [c70] at p106
    have p107 := p94
    rw [c100] at p107
    rw [c104] at p107
    rw [c70] at p107
    obtain ⟨v108, c109⟩ : ∃ v, I87 a0 13 = v := ⟨_, rfl⟩
    have p110 := p95
    rw [c66] at p110
    rw [c75] at p110
    rw [c100] at p110
    rw [c109] at p110
    have p111 := p96
    refine tr_istore_n dX12_readEvent_57 (by decide) (by decide) ?_
    refine tr_iload_n dX12_readEvent_58 rfl ?_
    refine q_iconst dX12_readEvent_59 (by decide) ?_
    intro v112 h113
    refine q_icmp_ne 69 dX12_readEvent_60 (by decide) (fun h114 => ?_) (fun h114 => ?_)
    · skip
      refine tr_aload_n dX12_readEvent_69 rfl ?_
      refine tr_ldcwS dX12_readEvent_70 ld12_272 ?_
      refine tr_iload_n dX12_readEvent_73 rfl ?_
      refine q_iconst dX12_readEvent_74 (by decide) ?_
      intro v115 h116
      refine q_iaddE dX12_readEvent_75 (by intros; omega) ?_
      intro v117 h118
      refine tr_aload_n dX12_readEvent_76 rfl ?_
      refine tr_getR dX12_readEvent_77 fl12_188 (kR15 hS97.1 ta0) d2 ?_
      refine q_getI dX12_readEvent_80 fl12_192 (kR14 hS97.1 ta1) ((hS97.cell ta1 (by decide +kernel)).trans c81) ?_
      refine q_callVi hE (M' := mX12_readPart) (as := [_, _, _]) dX12_readEvent_83 lk12_249 inX12_readPart seX12_readPart myX12_readPart (by decide) ⟨by decide, by decide⟩ rfl (kR15 hS97.1 ta0) (Nat.le_of_ble_eq_true rfl) rfl rfl (by decide) (by decide) (k_X12_readPart hS97.1 ta0 (by decide)) ?_
      rintro v123 cn' K' N' I119 R120 L121 ⟨rfl, rfl, rfl, rfl, g122, p124, p125, p126, p127, p128, -⟩
      have hS129 := hS97.tr g122 (by decide +kernel) (by decide +kernel)
      have c130 : I119 a1 2 = v11 := (g122.cell ta1 (by decide +kernel)).trans c98
      obtain ⟨v131, c132⟩ : ∃ v, I119 a0 9 = v := ⟨_, rfl⟩
      have b133 := iv15_9 hS129.1 ta0 c132
      have p134 := p124
      rw [c100] at p134
      rw [c132] at p134
      obtain ⟨v135, c136⟩ : ∃ v, I119 a0 8 = v := ⟨_, rfl⟩
      have b137 := iv15_8 hS129.1 ta0 c136
      have p138 := p125
      rw [c136] at p138
      rw [c104] at p138
      have p139 := p126
      rw [c132] at p139
      rw [c136] at p139
      rw [c104] at p139
      obtain ⟨v140, c141⟩ : ∃ v, I119 a0 13 = v := ⟨_, rfl⟩
      have p142 := p127
      rw [c100] at p142
      rw [c109] at p142
      rw [c132] at p142
      rw [c141] at p142
      have p143 := p128
      refine tr_istore dX12_readEvent_86 (by decide) (by decide) ?_
      refine tr_aload_n dX12_readEvent_88 rfl ?_
      refine q_getI dX12_readEvent_89 fl12_99 (kR15 hS129.1 ta0) c132 ?_
      refine q_iconst dX12_readEvent_92 (by decide) ?_
      intro v144 h145
      refine q_icmp_ne 97 dX12_readEvent_93 (by decide) (fun h146 => ?_) (fun h146 => ?_)
      · skip
        refine tr_aload_n dX12_readEvent_97 rfl ?_
        refine tr_getR dX12_readEvent_98 fl12_188 (kR15 hS129.1 ta0) d2 ?_
        refine q_getI dX12_readEvent_101 fl12_265 (kR14 hS129.1 ta1) c130 ?_
        refine tr_istore dX12_readEvent_104 (by decide) (by decide) ?_
        refine tr_aload_n dX12_readEvent_106 rfl ?_
        refine tr_getR dX12_readEvent_107 fl12_188 (kR15 hS129.1 ta0) d2 ?_
        obtain ⟨a147, d148, ta147⟩ := rf14_11 hW0 ta1
        refine tr_getR dX12_readEvent_110 fl12_274 (kR14 hS129.1 ta1) d148 ?_
        refine tr_iload dX12_readEvent_113 rfl ?_
        refine tr_iload_n dX12_readEvent_115 rfl ?_
        refine q_iastX dX12_readEvent_116 (kR54 hS129.1 ta147) (ti_in (nR54 hS129.1 ta147) (by omega) (by omega)) hS129 ta147 (by rfl) (hS129.1.putK (m := a1) ta1 d148 (by rw [c130]; exact Int.le_of_eq (ti_nat (by omega)).symm)) ?_
        intro I153 hS154 e155 f156
        have c157 : I153 a1 2 = v11 := (f156 _ _ (fun q => by have z := ta1; rw [q.1, ta147] at z; exact absurd z (by decide))).trans c130
        have c158 : I153 a0 9 = v131 := (f156 _ _ (fun q => by have z := ta0; rw [q.1, ta147] at z; exact absurd z (by decide))).trans c132
        have c159 : I153 a0 8 = v135 := (f156 _ _ (fun q => by have z := ta0; rw [q.1, ta147] at z; exact absurd z (by decide))).trans c136
        have c160 : I153 a0 13 = v140 := (f156 _ _ (fun q => by have z := ta0; rw [q.1, ta147] at z; exact absurd z (by decide))).trans c141
        refine tr_aload_n dX12_readEvent_117 rfl ?_
        refine tr_getR dX12_readEvent_118 fl12_188 (kR15 hS154.1 ta0) d2 ?_
        obtain ⟨a161, d162, ta161⟩ := rf14_12 hW0 ta1
        refine tr_getR dX12_readEvent_121 fl12_277 (kR14 hS154.1 ta1) d162 ?_
        refine tr_iload dX12_readEvent_124 rfl ?_
        refine tr_iload_n dX12_readEvent_126 rfl ?_
        refine q_iastX dX12_readEvent_127 (kR55 hS154.1 ta161) (ti_in (nR55 hS154.1 ta161) (by omega) (by omega)) hS154 ta161 (by rfl) (hS154.1.putH (m := a1) ta1 d162 (by rw [c157]; exact Int.le_of_eq (ti_nat (by omega)).symm) (by omega)) ?_
        intro I167 hS168 e169 f170
        have c171 : I167 a1 2 = v11 := (f170 _ _ (fun q => by have z := ta1; rw [q.1, ta161] at z; exact absurd z (by decide))).trans c157
        have c172 : I167 a0 9 = v131 := (f170 _ _ (fun q => by have z := ta0; rw [q.1, ta161] at z; exact absurd z (by decide))).trans c158
        have c173 : I167 a0 8 = v135 := (f170 _ _ (fun q => by have z := ta0; rw [q.1, ta161] at z; exact absurd z (by decide))).trans c159
        have c174 : I167 a0 13 = v140 := (f170 _ _ (fun q => by have z := ta0; rw [q.1, ta161] at z; exact absurd z (by decide))).trans c160
        have c175 : I167 a147 v11.toNatClampNeg = x1 := (f170 _ _ (fun q => by have z := ta147; rw [q.1, ta161] at z; exact absurd z (by decide))).trans e155
        refine tr_aload_n dX12_readEvent_128 rfl ?_
        refine tr_getR dX12_readEvent_129 fl12_188 (kR15 hS168.1 ta0) d2 ?_
        obtain ⟨a176, d177, ta176⟩ := rf14_13 hW0 ta1
        refine tr_getR dX12_readEvent_132 fl12_280 (kR14 hS168.1 ta1) d177 ?_
        refine tr_iload dX12_readEvent_135 rfl ?_
        refine tr_iload_n dX12_readEvent_137 rfl ?_
        refine q_iast dX12_readEvent_138 (kR56 hS168.1 ta176) (ti_in (nR56 hS168.1 ta176) (by omega) (by omega)) hS168 ta176 (by show (0 : Int) ≤ v91.toInt ∧ v91.toInt ≤ (240 : Int); omega) rfl (by rfl) ?_
        intro I178 hS179 e181 f180
        have c182 : I178 a1 2 = v11 := (f180 _ _ (fun q => by have z := ta1; rw [q.1, ta176] at z; exact absurd z (by decide))).trans c171
        have c183 : I178 a0 9 = v131 := (f180 _ _ (fun q => by have z := ta0; rw [q.1, ta176] at z; exact absurd z (by decide))).trans c172
        have c184 : I178 a0 8 = v135 := (f180 _ _ (fun q => by have z := ta0; rw [q.1, ta176] at z; exact absurd z (by decide))).trans c173
        have c185 : I178 a0 13 = v140 := (f180 _ _ (fun q => by have z := ta0; rw [q.1, ta176] at z; exact absurd z (by decide))).trans c174
        have c186 : I178 a147 v11.toNatClampNeg = x1 := (f180 _ _ (fun q => by have z := ta147; rw [q.1, ta176] at z; exact absurd z (by decide))).trans c175
        have c187 : I178 a161 v11.toNatClampNeg = v57 := (f180 _ _ (fun q => by have z := ta161; rw [q.1, ta176] at z; exact absurd z (by decide))).trans e169
        refine tr_aload_n dX12_readEvent_139 rfl ?_
        refine tr_getR dX12_readEvent_140 fl12_188 (kR15 hS179.1 ta0) d2 ?_
        obtain ⟨a188, d189, ta188⟩ := rf14_14 hW0 ta1
        refine tr_getR dX12_readEvent_143 fl12_283 (kR14 hS179.1 ta1) d189 ?_
        refine tr_iload dX12_readEvent_146 rfl ?_
        refine tr_iload dX12_readEvent_148 rfl ?_
        refine q_iast dX12_readEvent_150 (kR57 hS179.1 ta188) (ti_in (nR57 hS179.1 ta188) (by omega) (by omega)) hS179 ta188 (by show (0 : Int) ≤ v123.toInt ∧ v123.toInt ≤ (240 : Int); omega) rfl (by rfl) ?_
        intro I190 hS191 e193 f192
        have c194 : I190 a1 2 = v11 := (f192 _ _ (fun q => by have z := ta1; rw [q.1, ta188] at z; exact absurd z (by decide))).trans c182
        have c195 : I190 a0 9 = v131 := (f192 _ _ (fun q => by have z := ta0; rw [q.1, ta188] at z; exact absurd z (by decide))).trans c183
        have c196 : I190 a0 8 = v135 := (f192 _ _ (fun q => by have z := ta0; rw [q.1, ta188] at z; exact absurd z (by decide))).trans c184
        have c197 : I190 a0 13 = v140 := (f192 _ _ (fun q => by have z := ta0; rw [q.1, ta188] at z; exact absurd z (by decide))).trans c185
        have c198 : I190 a147 v11.toNatClampNeg = x1 := (f192 _ _ (fun q => by have z := ta147; rw [q.1, ta188] at z; exact absurd z (by decide))).trans c186
        have c199 : I190 a161 v11.toNatClampNeg = v57 := (f192 _ _ (fun q => by have z := ta161; rw [q.1, ta188] at z; exact absurd z (by decide))).trans c187
        refine tr_aload_n dX12_readEvent_151 rfl ?_
        refine tr_getR dX12_readEvent_152 fl12_188 (kR15 hS191.1 ta0) d2 ?_
        refine tr_dup dX12_readEvent_155 rfl ?_
        refine q_getI dX12_readEvent_156 fl12_265 (kR14 hS191.1 ta1) c194 ?_
        refine q_iconst dX12_readEvent_159 (by decide) ?_
        intro v200 h201
        refine q_iaddE dX12_readEvent_160 (by intros; omega) ?_
        intro v202 h203
        refine q_putX dX12_readEvent_161 fl12_265 (kR14 hS191.1 ta1) (Or.inl rfl) hS191 ta1 (by decide +kernel) (hS191.1.putE (i := v11.toNatClampNeg) ta1 d148 d162 (by rw [c194]; exact (ti_nat (by omega)).symm) (by rw [c194]; omega) (by omega) (by rw [c198, c199]; omega)) ?_
        intro I204 hS205 e206 f207
        have c208 : I204 a0 9 = v131 := (f207 _ _ (fun q => absurd q.2 (by decide))).trans c195
        have c209 : I204 a0 8 = v135 := (f207 _ _ (fun q => absurd q.2 (by decide))).trans c196
        have c210 : I204 a0 13 = v140 := (f207 _ _ (fun q => absurd q.2 (by decide))).trans c197
        have c211 : I204 a147 v11.toNatClampNeg = x1 := (f207 _ _ (fun q => by have z := ta147; rw [q.1, ta1] at z; exact absurd z (by decide))).trans c198
        have c212 : I204 a161 v11.toNatClampNeg = v57 := (f207 _ _ (fun q => by have z := ta161; rw [q.1, ta1] at z; exact absurd z (by decide))).trans c199
        exact tr_vret hZ dX12_readEvent_164 rfl (by decide) (by decide) ⟨rfl, rfl, rfl, rfl, rfl, hS205, (by (try rw [c4]); (try rw [c208]); (try omega)), (by (try rw [c209]); (try rw [c7]); (try omega)), (by (try rw [c208]); (try rw [c209]); (try rw [c7]); (try omega)), (by (try rw [c4]); (try rw [c10]); (try rw [c208]); (try rw [c210]); (try omega)), trivial⟩
      · skip
        exact tr_vret hZ dX12_readEvent_96 rfl (by decide) (by decide) ⟨rfl, rfl, rfl, rfl, rfl, hS129, (by (try rw [c4]); (try rw [c132]); (try omega)), (by (try rw [c136]); (try rw [c7]); (try omega)), (by (try rw [c132]); (try rw [c136]); (try rw [c7]); (try omega)), (by (try rw [c4]); (try rw [c10]); (try rw [c132]); (try rw [c141]); (try omega)), trivial⟩
    · skip
      exfalso; omega
  · skip
    refine tr_iload_n dX12_readEvent_18 rfl ?_
    refine q_iconst dX12_readEvent_19 (by decide) ?_
    intro v213 h214
    refine q_icmp_ne 40 dX12_readEvent_20 (by decide) (fun h215 => ?_) (fun h215 => ?_)
    · skip
      refine q_bipush dX12_readEvent_40 (by decide +kernel) ?_
      intro v216 h217
      refine tr_istore_n dX12_readEvent_42 (by decide) (by decide) ?_
      refine tr_aload_n dX12_readEvent_43 rfl ?_
      refine q_iconst dX12_readEvent_44 (by decide) ?_
      intro v218 h219
      refine tr_aload_n dX12_readEvent_45 rfl ?_
      refine tr_getR dX12_readEvent_46 fl12_188 (kR15 hS26.1 ta0) d2 ?_
      obtain ⟨v220, c221⟩ : ∃ v, I0 a1 0 = v := ⟨_, rfl⟩
      have b222 := iv14_0 hW0 ta1 c221
      refine q_getI dX12_readEvent_49 fl12_192 (kR14 hS26.1 ta1) ((hS26.cell ta1 (by decide +kernel)).trans c221) ?_
      refine q_iconst dX12_readEvent_52 (by decide) ?_
      intro v223 h224
      refine q_isubE dX12_readEvent_53 (by intros; omega) ?_
      intro v225 h226
      refine q_callVi hE (M' := mX12_readWhole) (as := [_, _]) dX12_readEvent_54 lk12_161 inX12_readWhole seX12_readWhole myX12_readWhole (by decide) ⟨by decide, by decide⟩ rfl (kR15 hS26.1 ta0) (Nat.le_of_ble_eq_true rfl) rfl rfl (by decide) (by decide) (k_X12_readWhole hS26.1 ta0) ?_
      rintro v231 cn' K' N' I227 R228 L229 ⟨rfl, rfl, rfl, rfl, g230, p232, p233, p234, p235, p236, -⟩
      have hS237 := hS26.tr g230 (by decide +kernel) (by decide +kernel)
      have c238 : I227 a1 2 = v11 := (g230.cell ta1 (by decide +kernel)).trans c27
      obtain ⟨v239, c240⟩ : ∃ v, I227 a0 9 = v := ⟨_, rfl⟩
      have b241 := iv15_9 hS237.1 ta0 c240
      have p242 := p232
      rw [c29] at p242
      rw [c240] at p242
      obtain ⟨v243, c244⟩ : ∃ v, I227 a0 8 = v := ⟨_, rfl⟩
      have b245 := iv15_8 hS237.1 ta0 c244
      have p246 := p233
      rw [c244] at p246
      rw [c33] at p246
      have p247 := p234
      rw [c240] at p247
      rw [c244] at p247
      rw [c33] at p247
      obtain ⟨v248, c249⟩ : ∃ v, I227 a0 13 = v := ⟨_, rfl⟩
      have p250 := p235
      rw [c29] at p250
      rw [c38] at p250
      rw [c240] at p250
      rw [c249] at p250
      have p251 := p236
      refine tr_istore_n dX12_readEvent_57 (by decide) (by decide) ?_
      refine tr_iload_n dX12_readEvent_58 rfl ?_
      refine q_iconst dX12_readEvent_59 (by decide) ?_
      intro v252 h253
      refine q_icmp_ne 69 dX12_readEvent_60 (by decide) (fun h254 => ?_) (fun h254 => ?_)
      · skip
        refine tr_aload_n dX12_readEvent_69 rfl ?_
        refine tr_ldcwS dX12_readEvent_70 ld12_272 ?_
        refine tr_iload_n dX12_readEvent_73 rfl ?_
        refine q_iconst dX12_readEvent_74 (by decide) ?_
        intro v255 h256
        refine q_iaddE dX12_readEvent_75 (by intros; omega) ?_
        intro v257 h258
        refine tr_aload_n dX12_readEvent_76 rfl ?_
        refine tr_getR dX12_readEvent_77 fl12_188 (kR15 hS237.1 ta0) d2 ?_
        refine q_getI dX12_readEvent_80 fl12_192 (kR14 hS237.1 ta1) ((hS237.cell ta1 (by decide +kernel)).trans c221) ?_
        refine q_callVi hE (M' := mX12_readPart) (as := [_, _, _]) dX12_readEvent_83 lk12_249 inX12_readPart seX12_readPart myX12_readPart (by decide) ⟨by decide, by decide⟩ rfl (kR15 hS237.1 ta0) (Nat.le_of_ble_eq_true rfl) rfl rfl (by decide) (by decide) (k_X12_readPart hS237.1 ta0 (by decide)) ?_
        rintro v263 cn' K' N' I259 R260 L261 ⟨rfl, rfl, rfl, rfl, g262, p264, p265, p266, p267, p268, -⟩
        have hS269 := hS237.tr g262 (by decide +kernel) (by decide +kernel)
        have c270 : I259 a1 2 = v11 := (g262.cell ta1 (by decide +kernel)).trans c238
        obtain ⟨v271, c272⟩ : ∃ v, I259 a0 9 = v := ⟨_, rfl⟩
        have b273 := iv15_9 hS269.1 ta0 c272
        have p274 := p264
        rw [c240] at p274
        rw [c272] at p274
        obtain ⟨v275, c276⟩ : ∃ v, I259 a0 8 = v := ⟨_, rfl⟩
        have b277 := iv15_8 hS269.1 ta0 c276
        have p278 := p265
        rw [c276] at p278
        rw [c244] at p278
        have p279 := p266
        rw [c272] at p279
        rw [c276] at p279
        rw [c244] at p279
        obtain ⟨v280, c281⟩ : ∃ v, I259 a0 13 = v := ⟨_, rfl⟩
        have p282 := p267
        rw [c240] at p282
        rw [c249] at p282
        rw [c272] at p282
        rw [c281] at p282
        have p283 := p268
        refine tr_istore dX12_readEvent_86 (by decide) (by decide) ?_
        refine tr_aload_n dX12_readEvent_88 rfl ?_
        refine q_getI dX12_readEvent_89 fl12_99 (kR15 hS269.1 ta0) c272 ?_
        refine q_iconst dX12_readEvent_92 (by decide) ?_
        intro v284 h285
        refine q_icmp_ne 97 dX12_readEvent_93 (by decide) (fun h286 => ?_) (fun h286 => ?_)
        · skip
          refine tr_aload_n dX12_readEvent_97 rfl ?_
          refine tr_getR dX12_readEvent_98 fl12_188 (kR15 hS269.1 ta0) d2 ?_
          refine q_getI dX12_readEvent_101 fl12_265 (kR14 hS269.1 ta1) c270 ?_
          refine tr_istore dX12_readEvent_104 (by decide) (by decide) ?_
          refine tr_aload_n dX12_readEvent_106 rfl ?_
          refine tr_getR dX12_readEvent_107 fl12_188 (kR15 hS269.1 ta0) d2 ?_
          obtain ⟨a287, d288, ta287⟩ := rf14_11 hW0 ta1
          refine tr_getR dX12_readEvent_110 fl12_274 (kR14 hS269.1 ta1) d288 ?_
          refine tr_iload dX12_readEvent_113 rfl ?_
          refine tr_iload_n dX12_readEvent_115 rfl ?_
          refine q_iastX dX12_readEvent_116 (kR54 hS269.1 ta287) (ti_in (nR54 hS269.1 ta287) (by omega) (by omega)) hS269 ta287 (by rfl) (hS269.1.putK (m := a1) ta1 d288 (by rw [c270]; exact Int.le_of_eq (ti_nat (by omega)).symm)) ?_
          intro I293 hS294 e295 f296
          have c297 : I293 a1 2 = v11 := (f296 _ _ (fun q => by have z := ta1; rw [q.1, ta287] at z; exact absurd z (by decide))).trans c270
          have c298 : I293 a0 9 = v271 := (f296 _ _ (fun q => by have z := ta0; rw [q.1, ta287] at z; exact absurd z (by decide))).trans c272
          have c299 : I293 a0 8 = v275 := (f296 _ _ (fun q => by have z := ta0; rw [q.1, ta287] at z; exact absurd z (by decide))).trans c276
          have c300 : I293 a0 13 = v280 := (f296 _ _ (fun q => by have z := ta0; rw [q.1, ta287] at z; exact absurd z (by decide))).trans c281
          refine tr_aload_n dX12_readEvent_117 rfl ?_
          refine tr_getR dX12_readEvent_118 fl12_188 (kR15 hS294.1 ta0) d2 ?_
          obtain ⟨a301, d302, ta301⟩ := rf14_12 hW0 ta1
          refine tr_getR dX12_readEvent_121 fl12_277 (kR14 hS294.1 ta1) d302 ?_
          refine tr_iload dX12_readEvent_124 rfl ?_
          refine tr_iload_n dX12_readEvent_126 rfl ?_
          refine q_iastX dX12_readEvent_127 (kR55 hS294.1 ta301) (ti_in (nR55 hS294.1 ta301) (by omega) (by omega)) hS294 ta301 (by rfl) (hS294.1.putH (m := a1) ta1 d302 (by rw [c297]; exact Int.le_of_eq (ti_nat (by omega)).symm) (by omega)) ?_
          intro I307 hS308 e309 f310
          have c311 : I307 a1 2 = v11 := (f310 _ _ (fun q => by have z := ta1; rw [q.1, ta301] at z; exact absurd z (by decide))).trans c297
          have c312 : I307 a0 9 = v271 := (f310 _ _ (fun q => by have z := ta0; rw [q.1, ta301] at z; exact absurd z (by decide))).trans c298
          have c313 : I307 a0 8 = v275 := (f310 _ _ (fun q => by have z := ta0; rw [q.1, ta301] at z; exact absurd z (by decide))).trans c299
          have c314 : I307 a0 13 = v280 := (f310 _ _ (fun q => by have z := ta0; rw [q.1, ta301] at z; exact absurd z (by decide))).trans c300
          have c315 : I307 a287 v11.toNatClampNeg = x1 := (f310 _ _ (fun q => by have z := ta287; rw [q.1, ta301] at z; exact absurd z (by decide))).trans e295
          refine tr_aload_n dX12_readEvent_128 rfl ?_
          refine tr_getR dX12_readEvent_129 fl12_188 (kR15 hS308.1 ta0) d2 ?_
          obtain ⟨a316, d317, ta316⟩ := rf14_13 hW0 ta1
          refine tr_getR dX12_readEvent_132 fl12_280 (kR14 hS308.1 ta1) d317 ?_
          refine tr_iload dX12_readEvent_135 rfl ?_
          refine tr_iload_n dX12_readEvent_137 rfl ?_
          refine q_iast dX12_readEvent_138 (kR56 hS308.1 ta316) (ti_in (nR56 hS308.1 ta316) (by omega) (by omega)) hS308 ta316 (by show (0 : Int) ≤ v231.toInt ∧ v231.toInt ≤ (240 : Int); omega) rfl (by rfl) ?_
          intro I318 hS319 e321 f320
          have c322 : I318 a1 2 = v11 := (f320 _ _ (fun q => by have z := ta1; rw [q.1, ta316] at z; exact absurd z (by decide))).trans c311
          have c323 : I318 a0 9 = v271 := (f320 _ _ (fun q => by have z := ta0; rw [q.1, ta316] at z; exact absurd z (by decide))).trans c312
          have c324 : I318 a0 8 = v275 := (f320 _ _ (fun q => by have z := ta0; rw [q.1, ta316] at z; exact absurd z (by decide))).trans c313
          have c325 : I318 a0 13 = v280 := (f320 _ _ (fun q => by have z := ta0; rw [q.1, ta316] at z; exact absurd z (by decide))).trans c314
          have c326 : I318 a287 v11.toNatClampNeg = x1 := (f320 _ _ (fun q => by have z := ta287; rw [q.1, ta316] at z; exact absurd z (by decide))).trans c315
          have c327 : I318 a301 v11.toNatClampNeg = v216 := (f320 _ _ (fun q => by have z := ta301; rw [q.1, ta316] at z; exact absurd z (by decide))).trans e309
          refine tr_aload_n dX12_readEvent_139 rfl ?_
          refine tr_getR dX12_readEvent_140 fl12_188 (kR15 hS319.1 ta0) d2 ?_
          obtain ⟨a328, d329, ta328⟩ := rf14_14 hW0 ta1
          refine tr_getR dX12_readEvent_143 fl12_283 (kR14 hS319.1 ta1) d329 ?_
          refine tr_iload dX12_readEvent_146 rfl ?_
          refine tr_iload dX12_readEvent_148 rfl ?_
          refine q_iast dX12_readEvent_150 (kR57 hS319.1 ta328) (ti_in (nR57 hS319.1 ta328) (by omega) (by omega)) hS319 ta328 (by show (0 : Int) ≤ v263.toInt ∧ v263.toInt ≤ (240 : Int); omega) rfl (by rfl) ?_
          intro I330 hS331 e333 f332
          have c334 : I330 a1 2 = v11 := (f332 _ _ (fun q => by have z := ta1; rw [q.1, ta328] at z; exact absurd z (by decide))).trans c322
          have c335 : I330 a0 9 = v271 := (f332 _ _ (fun q => by have z := ta0; rw [q.1, ta328] at z; exact absurd z (by decide))).trans c323
          have c336 : I330 a0 8 = v275 := (f332 _ _ (fun q => by have z := ta0; rw [q.1, ta328] at z; exact absurd z (by decide))).trans c324
          have c337 : I330 a0 13 = v280 := (f332 _ _ (fun q => by have z := ta0; rw [q.1, ta328] at z; exact absurd z (by decide))).trans c325
          have c338 : I330 a287 v11.toNatClampNeg = x1 := (f332 _ _ (fun q => by have z := ta287; rw [q.1, ta328] at z; exact absurd z (by decide))).trans c326
          have c339 : I330 a301 v11.toNatClampNeg = v216 := (f332 _ _ (fun q => by have z := ta301; rw [q.1, ta328] at z; exact absurd z (by decide))).trans c327
          refine tr_aload_n dX12_readEvent_151 rfl ?_
          refine tr_getR dX12_readEvent_152 fl12_188 (kR15 hS331.1 ta0) d2 ?_
          refine tr_dup dX12_readEvent_155 rfl ?_
          refine q_getI dX12_readEvent_156 fl12_265 (kR14 hS331.1 ta1) c334 ?_
          refine q_iconst dX12_readEvent_159 (by decide) ?_
          intro v340 h341
          refine q_iaddE dX12_readEvent_160 (by intros; omega) ?_
          intro v342 h343
          refine q_putX dX12_readEvent_161 fl12_265 (kR14 hS331.1 ta1) (Or.inl rfl) hS331 ta1 (by decide +kernel) (hS331.1.putE (i := v11.toNatClampNeg) ta1 d288 d302 (by rw [c334]; exact (ti_nat (by omega)).symm) (by rw [c334]; omega) (by omega) (by rw [c338, c339]; omega)) ?_
          intro I344 hS345 e346 f347
          have c348 : I344 a0 9 = v271 := (f347 _ _ (fun q => absurd q.2 (by decide))).trans c335
          have c349 : I344 a0 8 = v275 := (f347 _ _ (fun q => absurd q.2 (by decide))).trans c336
          have c350 : I344 a0 13 = v280 := (f347 _ _ (fun q => absurd q.2 (by decide))).trans c337
          have c351 : I344 a287 v11.toNatClampNeg = x1 := (f347 _ _ (fun q => by have z := ta287; rw [q.1, ta1] at z; exact absurd z (by decide))).trans c338
          have c352 : I344 a301 v11.toNatClampNeg = v216 := (f347 _ _ (fun q => by have z := ta301; rw [q.1, ta1] at z; exact absurd z (by decide))).trans c339
          exact tr_vret hZ dX12_readEvent_164 rfl (by decide) (by decide) ⟨rfl, rfl, rfl, rfl, rfl, hS345, (by (try rw [c4]); (try rw [c348]); (try omega)), (by (try rw [c349]); (try rw [c7]); (try omega)), (by (try rw [c348]); (try rw [c349]); (try rw [c7]); (try omega)), (by (try rw [c4]); (try rw [c10]); (try rw [c348]); (try rw [c350]); (try omega)), trivial⟩
        · skip
          exact tr_vret hZ dX12_readEvent_96 rfl (by decide) (by decide) ⟨rfl, rfl, rfl, rfl, rfl, hS269, (by (try rw [c4]); (try rw [c272]); (try omega)), (by (try rw [c276]); (try rw [c7]); (try omega)), (by (try rw [c272]); (try rw [c276]); (try rw [c7]); (try omega)), (by (try rw [c4]); (try rw [c10]); (try rw [c272]); (try rw [c281]); (try omega)), trivial⟩
      · skip
        refine tr_iload_n dX12_readEvent_63 rfl ?_
        refine q_iconst dX12_readEvent_64 (by decide) ?_
        intro v353 h354
        refine q_iaddE dX12_readEvent_65 (by intros; omega) ?_
        intro v355 h356
        refine tr_goto 86 dX12_readEvent_66 (by decide) ?_
        refine tr_istore dX12_readEvent_86 (by decide) (by decide) ?_
        refine tr_aload_n dX12_readEvent_88 rfl ?_
        refine q_getI dX12_readEvent_89 fl12_99 (kR15 hS237.1 ta0) c240 ?_
        refine q_iconst dX12_readEvent_92 (by decide) ?_
        intro v357 h358
        refine q_icmp_ne 97 dX12_readEvent_93 (by decide) (fun h359 => ?_) (fun h359 => ?_)
        · skip
          refine tr_aload_n dX12_readEvent_97 rfl ?_
          refine tr_getR dX12_readEvent_98 fl12_188 (kR15 hS237.1 ta0) d2 ?_
          refine q_getI dX12_readEvent_101 fl12_265 (kR14 hS237.1 ta1) c238 ?_
          refine tr_istore dX12_readEvent_104 (by decide) (by decide) ?_
          refine tr_aload_n dX12_readEvent_106 rfl ?_
          refine tr_getR dX12_readEvent_107 fl12_188 (kR15 hS237.1 ta0) d2 ?_
          obtain ⟨a360, d361, ta360⟩ := rf14_11 hW0 ta1
          refine tr_getR dX12_readEvent_110 fl12_274 (kR14 hS237.1 ta1) d361 ?_
          refine tr_iload dX12_readEvent_113 rfl ?_
          refine tr_iload_n dX12_readEvent_115 rfl ?_
          refine q_iastX dX12_readEvent_116 (kR54 hS237.1 ta360) (ti_in (nR54 hS237.1 ta360) (by omega) (by omega)) hS237 ta360 (by rfl) (hS237.1.putK (m := a1) ta1 d361 (by rw [c238]; exact Int.le_of_eq (ti_nat (by omega)).symm)) ?_
          intro I366 hS367 e368 f369
          have c370 : I366 a1 2 = v11 := (f369 _ _ (fun q => by have z := ta1; rw [q.1, ta360] at z; exact absurd z (by decide))).trans c238
          have c371 : I366 a0 9 = v239 := (f369 _ _ (fun q => by have z := ta0; rw [q.1, ta360] at z; exact absurd z (by decide))).trans c240
          have c372 : I366 a0 8 = v243 := (f369 _ _ (fun q => by have z := ta0; rw [q.1, ta360] at z; exact absurd z (by decide))).trans c244
          have c373 : I366 a0 13 = v248 := (f369 _ _ (fun q => by have z := ta0; rw [q.1, ta360] at z; exact absurd z (by decide))).trans c249
          refine tr_aload_n dX12_readEvent_117 rfl ?_
          refine tr_getR dX12_readEvent_118 fl12_188 (kR15 hS367.1 ta0) d2 ?_
          obtain ⟨a374, d375, ta374⟩ := rf14_12 hW0 ta1
          refine tr_getR dX12_readEvent_121 fl12_277 (kR14 hS367.1 ta1) d375 ?_
          refine tr_iload dX12_readEvent_124 rfl ?_
          refine tr_iload_n dX12_readEvent_126 rfl ?_
          refine q_iastX dX12_readEvent_127 (kR55 hS367.1 ta374) (ti_in (nR55 hS367.1 ta374) (by omega) (by omega)) hS367 ta374 (by rfl) (hS367.1.putH (m := a1) ta1 d375 (by rw [c370]; exact Int.le_of_eq (ti_nat (by omega)).symm) (by omega)) ?_
          intro I380 hS381 e382 f383
          have c384 : I380 a1 2 = v11 := (f383 _ _ (fun q => by have z := ta1; rw [q.1, ta374] at z; exact absurd z (by decide))).trans c370
          have c385 : I380 a0 9 = v239 := (f383 _ _ (fun q => by have z := ta0; rw [q.1, ta374] at z; exact absurd z (by decide))).trans c371
          have c386 : I380 a0 8 = v243 := (f383 _ _ (fun q => by have z := ta0; rw [q.1, ta374] at z; exact absurd z (by decide))).trans c372
          have c387 : I380 a0 13 = v248 := (f383 _ _ (fun q => by have z := ta0; rw [q.1, ta374] at z; exact absurd z (by decide))).trans c373
          have c388 : I380 a360 v11.toNatClampNeg = x1 := (f383 _ _ (fun q => by have z := ta360; rw [q.1, ta374] at z; exact absurd z (by decide))).trans e368
          refine tr_aload_n dX12_readEvent_128 rfl ?_
          refine tr_getR dX12_readEvent_129 fl12_188 (kR15 hS381.1 ta0) d2 ?_
          obtain ⟨a389, d390, ta389⟩ := rf14_13 hW0 ta1
          refine tr_getR dX12_readEvent_132 fl12_280 (kR14 hS381.1 ta1) d390 ?_
          refine tr_iload dX12_readEvent_135 rfl ?_
          refine tr_iload_n dX12_readEvent_137 rfl ?_
          refine q_iast dX12_readEvent_138 (kR56 hS381.1 ta389) (ti_in (nR56 hS381.1 ta389) (by omega) (by omega)) hS381 ta389 (by show (0 : Int) ≤ v231.toInt ∧ v231.toInt ≤ (240 : Int); omega) rfl (by rfl) ?_
          intro I391 hS392 e394 f393
          have c395 : I391 a1 2 = v11 := (f393 _ _ (fun q => by have z := ta1; rw [q.1, ta389] at z; exact absurd z (by decide))).trans c384
          have c396 : I391 a0 9 = v239 := (f393 _ _ (fun q => by have z := ta0; rw [q.1, ta389] at z; exact absurd z (by decide))).trans c385
          have c397 : I391 a0 8 = v243 := (f393 _ _ (fun q => by have z := ta0; rw [q.1, ta389] at z; exact absurd z (by decide))).trans c386
          have c398 : I391 a0 13 = v248 := (f393 _ _ (fun q => by have z := ta0; rw [q.1, ta389] at z; exact absurd z (by decide))).trans c387
          have c399 : I391 a360 v11.toNatClampNeg = x1 := (f393 _ _ (fun q => by have z := ta360; rw [q.1, ta389] at z; exact absurd z (by decide))).trans c388
          have c400 : I391 a374 v11.toNatClampNeg = v216 := (f393 _ _ (fun q => by have z := ta374; rw [q.1, ta389] at z; exact absurd z (by decide))).trans e382
          refine tr_aload_n dX12_readEvent_139 rfl ?_
          refine tr_getR dX12_readEvent_140 fl12_188 (kR15 hS392.1 ta0) d2 ?_
          obtain ⟨a401, d402, ta401⟩ := rf14_14 hW0 ta1
          refine tr_getR dX12_readEvent_143 fl12_283 (kR14 hS392.1 ta1) d402 ?_
          refine tr_iload dX12_readEvent_146 rfl ?_
          refine tr_iload dX12_readEvent_148 rfl ?_
          refine q_iast dX12_readEvent_150 (kR57 hS392.1 ta401) (ti_in (nR57 hS392.1 ta401) (by omega) (by omega)) hS392 ta401 (by show (0 : Int) ≤ v355.toInt ∧ v355.toInt ≤ (240 : Int); omega) rfl (by rfl) ?_
          intro I403 hS404 e406 f405
          have c407 : I403 a1 2 = v11 := (f405 _ _ (fun q => by have z := ta1; rw [q.1, ta401] at z; exact absurd z (by decide))).trans c395
          have c408 : I403 a0 9 = v239 := (f405 _ _ (fun q => by have z := ta0; rw [q.1, ta401] at z; exact absurd z (by decide))).trans c396
          have c409 : I403 a0 8 = v243 := (f405 _ _ (fun q => by have z := ta0; rw [q.1, ta401] at z; exact absurd z (by decide))).trans c397
          have c410 : I403 a0 13 = v248 := (f405 _ _ (fun q => by have z := ta0; rw [q.1, ta401] at z; exact absurd z (by decide))).trans c398
          have c411 : I403 a360 v11.toNatClampNeg = x1 := (f405 _ _ (fun q => by have z := ta360; rw [q.1, ta401] at z; exact absurd z (by decide))).trans c399
          have c412 : I403 a374 v11.toNatClampNeg = v216 := (f405 _ _ (fun q => by have z := ta374; rw [q.1, ta401] at z; exact absurd z (by decide))).trans c400
          refine tr_aload_n dX12_readEvent_151 rfl ?_
          refine tr_getR dX12_readEvent_152 fl12_188 (kR15 hS404.1 ta0) d2 ?_
          refine tr_dup dX12_readEvent_155 rfl ?_
          refine q_getI dX12_readEvent_156 fl12_265 (kR14 hS404.1 ta1) c407 ?_
          refine q_iconst dX12_readEvent_159 (by decide) ?_
          intro v413 h414
          refine q_iaddE dX12_readEvent_160 (by intros; omega) ?_
          intro v415 h416
          refine q_putX dX12_readEvent_161 fl12_265 (kR14 hS404.1 ta1) (Or.inl rfl) hS404 ta1 (by decide +kernel) (hS404.1.putE (i := v11.toNatClampNeg) ta1 d361 d375 (by rw [c407]; exact (ti_nat (by omega)).symm) (by rw [c407]; omega) (by omega) (by rw [c411, c412]; omega)) ?_
          intro I417 hS418 e419 f420
          have c421 : I417 a0 9 = v239 := (f420 _ _ (fun q => absurd q.2 (by decide))).trans c408
          have c422 : I417 a0 8 = v243 := (f420 _ _ (fun q => absurd q.2 (by decide))).trans c409
          have c423 : I417 a0 13 = v248 := (f420 _ _ (fun q => absurd q.2 (by decide))).trans c410
          have c424 : I417 a360 v11.toNatClampNeg = x1 := (f420 _ _ (fun q => by have z := ta360; rw [q.1, ta1] at z; exact absurd z (by decide))).trans c411
          have c425 : I417 a374 v11.toNatClampNeg = v216 := (f420 _ _ (fun q => by have z := ta374; rw [q.1, ta1] at z; exact absurd z (by decide))).trans c412
          exact tr_vret hZ dX12_readEvent_164 rfl (by decide) (by decide) ⟨rfl, rfl, rfl, rfl, rfl, hS418, (by (try rw [c4]); (try rw [c421]); (try omega)), (by (try rw [c422]); (try rw [c7]); (try omega)), (by (try rw [c421]); (try rw [c422]); (try rw [c7]); (try omega)), (by (try rw [c4]); (try rw [c10]); (try rw [c421]); (try rw [c423]); (try omega)), trivial⟩
        · skip
          exact tr_vret hZ dX12_readEvent_96 rfl (by decide) (by decide) ⟨rfl, rfl, rfl, rfl, rfl, hS237, (by (try rw [c4]); (try rw [c240]); (try omega)), (by (try rw [c244]); (try rw [c7]); (try omega)), (by (try rw [c240]); (try rw [c244]); (try rw [c7]); (try omega)), (by (try rw [c4]); (try rw [c10]); (try rw [c240]); (try rw [c249]); (try omega)), trivial⟩
    · skip
      refine tr_aload_n dX12_readEvent_23 rfl ?_
      refine q_iconst dX12_readEvent_24 (by decide) ?_
      intro v426 h427
      refine tr_aload_n dX12_readEvent_25 rfl ?_
      refine tr_getR dX12_readEvent_26 fl12_188 (kR15 hS26.1 ta0) d2 ?_
      obtain ⟨v428, c429⟩ : ∃ v, I0 a1 1 = v := ⟨_, rfl⟩
      have b430 := iv14_1 hW0 ta1 c429
      refine q_getI dX12_readEvent_29 fl12_263 (kR14 hS26.1 ta1) ((hS26.cell ta1 (by decide +kernel)).trans c429) ?_
      refine q_iconst dX12_readEvent_32 (by decide) ?_
      intro v431 h432
      refine q_isubE dX12_readEvent_33 (by intros; omega) ?_
      intro v433 h434
      refine q_callVi hE (M' := mX12_readWhole) (as := [_, _]) dX12_readEvent_34 lk12_161 inX12_readWhole seX12_readWhole myX12_readWhole (by decide) ⟨by decide, by decide⟩ rfl (kR15 hS26.1 ta0) (Nat.le_of_ble_eq_true rfl) rfl rfl (by decide) (by decide) (k_X12_readWhole hS26.1 ta0) ?_
      rintro v439 cn' K' N' I435 R436 L437 ⟨rfl, rfl, rfl, rfl, g438, p440, p441, p442, p443, p444, -⟩
      have hS445 := hS26.tr g438 (by decide +kernel) (by decide +kernel)
      have c446 : I435 a1 2 = v11 := (g438.cell ta1 (by decide +kernel)).trans c27
      obtain ⟨v447, c448⟩ : ∃ v, I435 a0 9 = v := ⟨_, rfl⟩
      have b449 := iv15_9 hS445.1 ta0 c448
      have p450 := p440
      rw [c29] at p450
      rw [c448] at p450
      obtain ⟨v451, c452⟩ : ∃ v, I435 a0 8 = v := ⟨_, rfl⟩
      have b453 := iv15_8 hS445.1 ta0 c452
      have p454 := p441
      rw [c452] at p454
      rw [c33] at p454
      have p455 := p442
      rw [c448] at p455
      rw [c452] at p455
      rw [c33] at p455
      obtain ⟨v456, c457⟩ : ∃ v, I435 a0 13 = v := ⟨_, rfl⟩
      have p458 := p443
      rw [c29] at p458
      rw [c38] at p458
      rw [c448] at p458
      rw [c457] at p458
      have p459 := p444
      refine tr_goto 42 dX12_readEvent_37 (by decide) ?_
      refine tr_istore_n dX12_readEvent_42 (by decide) (by decide) ?_
      refine tr_aload_n dX12_readEvent_43 rfl ?_
      refine q_iconst dX12_readEvent_44 (by decide) ?_
      intro v460 h461
      refine tr_aload_n dX12_readEvent_45 rfl ?_
      refine tr_getR dX12_readEvent_46 fl12_188 (kR15 hS445.1 ta0) d2 ?_
      obtain ⟨v462, c463⟩ : ∃ v, I0 a1 0 = v := ⟨_, rfl⟩
      have b464 := iv14_0 hW0 ta1 c463
      refine q_getI dX12_readEvent_49 fl12_192 (kR14 hS445.1 ta1) ((hS445.cell ta1 (by decide +kernel)).trans c463) ?_
      refine q_iconst dX12_readEvent_52 (by decide) ?_
      intro v465 h466
      refine q_isubE dX12_readEvent_53 (by intros; omega) ?_
      intro v467 h468
      refine q_callVi hE (M' := mX12_readWhole) (as := [_, _]) dX12_readEvent_54 lk12_161 inX12_readWhole seX12_readWhole myX12_readWhole (by decide) ⟨by decide, by decide⟩ rfl (kR15 hS445.1 ta0) (Nat.le_of_ble_eq_true rfl) rfl rfl (by decide) (by decide) (k_X12_readWhole hS445.1 ta0) ?_
      rintro v473 cn' K' N' I469 R470 L471 ⟨rfl, rfl, rfl, rfl, g472, p474, p475, p476, p477, p478, -⟩
      have hS479 := hS445.tr g472 (by decide +kernel) (by decide +kernel)
      have c480 : I469 a1 2 = v11 := (g472.cell ta1 (by decide +kernel)).trans c446
      obtain ⟨v481, c482⟩ : ∃ v, I469 a0 9 = v := ⟨_, rfl⟩
      have b483 := iv15_9 hS479.1 ta0 c482
      have p484 := p474
      rw [c448] at p484
      rw [c482] at p484
      obtain ⟨v485, c486⟩ : ∃ v, I469 a0 8 = v := ⟨_, rfl⟩
      have b487 := iv15_8 hS479.1 ta0 c486
      have p488 := p475
      rw [c486] at p488
      rw [c452] at p488
      have p489 := p476
      rw [c482] at p489
      rw [c486] at p489
      rw [c452] at p489
      obtain ⟨v490, c491⟩ : ∃ v, I469 a0 13 = v := ⟨_, rfl⟩
      have p492 := p477
      rw [c448] at p492
      rw [c457] at p492
      rw [c482] at p492
      rw [c491] at p492
      have p493 := p478
      refine tr_istore_n dX12_readEvent_57 (by decide) (by decide) ?_
      refine tr_iload_n dX12_readEvent_58 rfl ?_
      refine q_iconst dX12_readEvent_59 (by decide) ?_
      intro v494 h495
      refine q_icmp_ne 69 dX12_readEvent_60 (by decide) (fun h496 => ?_) (fun h496 => ?_)
      · skip
        refine tr_aload_n dX12_readEvent_69 rfl ?_
        refine tr_ldcwS dX12_readEvent_70 ld12_272 ?_
        refine tr_iload_n dX12_readEvent_73 rfl ?_
        refine q_iconst dX12_readEvent_74 (by decide) ?_
        intro v497 h498
        refine q_iaddE dX12_readEvent_75 (by intros; omega) ?_
        intro v499 h500
        refine tr_aload_n dX12_readEvent_76 rfl ?_
        refine tr_getR dX12_readEvent_77 fl12_188 (kR15 hS479.1 ta0) d2 ?_
        refine q_getI dX12_readEvent_80 fl12_192 (kR14 hS479.1 ta1) ((hS479.cell ta1 (by decide +kernel)).trans c463) ?_
        refine q_callVi hE (M' := mX12_readPart) (as := [_, _, _]) dX12_readEvent_83 lk12_249 inX12_readPart seX12_readPart myX12_readPart (by decide) ⟨by decide, by decide⟩ rfl (kR15 hS479.1 ta0) (Nat.le_of_ble_eq_true rfl) rfl rfl (by decide) (by decide) (k_X12_readPart hS479.1 ta0 (by decide)) ?_
        rintro v505 cn' K' N' I501 R502 L503 ⟨rfl, rfl, rfl, rfl, g504, p506, p507, p508, p509, p510, -⟩
        have hS511 := hS479.tr g504 (by decide +kernel) (by decide +kernel)
        have c512 : I501 a1 2 = v11 := (g504.cell ta1 (by decide +kernel)).trans c480
        obtain ⟨v513, c514⟩ : ∃ v, I501 a0 9 = v := ⟨_, rfl⟩
        have b515 := iv15_9 hS511.1 ta0 c514
        have p516 := p506
        rw [c482] at p516
        rw [c514] at p516
        obtain ⟨v517, c518⟩ : ∃ v, I501 a0 8 = v := ⟨_, rfl⟩
        have b519 := iv15_8 hS511.1 ta0 c518
        have p520 := p507
        rw [c518] at p520
        rw [c486] at p520
        have p521 := p508
        rw [c514] at p521
        rw [c518] at p521
        rw [c486] at p521
        obtain ⟨v522, c523⟩ : ∃ v, I501 a0 13 = v := ⟨_, rfl⟩
        have p524 := p509
        rw [c482] at p524
        rw [c491] at p524
        rw [c514] at p524
        rw [c523] at p524
        have p525 := p510
        refine tr_istore dX12_readEvent_86 (by decide) (by decide) ?_
        refine tr_aload_n dX12_readEvent_88 rfl ?_
        refine q_getI dX12_readEvent_89 fl12_99 (kR15 hS511.1 ta0) c514 ?_
        refine q_iconst dX12_readEvent_92 (by decide) ?_
        intro v526 h527
        refine q_icmp_ne 97 dX12_readEvent_93 (by decide) (fun h528 => ?_) (fun h528 => ?_)
        · skip
          refine tr_aload_n dX12_readEvent_97 rfl ?_
          refine tr_getR dX12_readEvent_98 fl12_188 (kR15 hS511.1 ta0) d2 ?_
          refine q_getI dX12_readEvent_101 fl12_265 (kR14 hS511.1 ta1) c512 ?_
          refine tr_istore dX12_readEvent_104 (by decide) (by decide) ?_
          refine tr_aload_n dX12_readEvent_106 rfl ?_
          refine tr_getR dX12_readEvent_107 fl12_188 (kR15 hS511.1 ta0) d2 ?_
          obtain ⟨a529, d530, ta529⟩ := rf14_11 hW0 ta1
          refine tr_getR dX12_readEvent_110 fl12_274 (kR14 hS511.1 ta1) d530 ?_
          refine tr_iload dX12_readEvent_113 rfl ?_
          refine tr_iload_n dX12_readEvent_115 rfl ?_
          refine q_iastX dX12_readEvent_116 (kR54 hS511.1 ta529) (ti_in (nR54 hS511.1 ta529) (by omega) (by omega)) hS511 ta529 (by rfl) (hS511.1.putK (m := a1) ta1 d530 (by rw [c512]; exact Int.le_of_eq (ti_nat (by omega)).symm)) ?_
          intro I535 hS536 e537 f538
          have c539 : I535 a1 2 = v11 := (f538 _ _ (fun q => by have z := ta1; rw [q.1, ta529] at z; exact absurd z (by decide))).trans c512
          have c540 : I535 a0 9 = v513 := (f538 _ _ (fun q => by have z := ta0; rw [q.1, ta529] at z; exact absurd z (by decide))).trans c514
          have c541 : I535 a0 8 = v517 := (f538 _ _ (fun q => by have z := ta0; rw [q.1, ta529] at z; exact absurd z (by decide))).trans c518
          have c542 : I535 a0 13 = v522 := (f538 _ _ (fun q => by have z := ta0; rw [q.1, ta529] at z; exact absurd z (by decide))).trans c523
          refine tr_aload_n dX12_readEvent_117 rfl ?_
          refine tr_getR dX12_readEvent_118 fl12_188 (kR15 hS536.1 ta0) d2 ?_
          obtain ⟨a543, d544, ta543⟩ := rf14_12 hW0 ta1
          refine tr_getR dX12_readEvent_121 fl12_277 (kR14 hS536.1 ta1) d544 ?_
          refine tr_iload dX12_readEvent_124 rfl ?_
          refine tr_iload_n dX12_readEvent_126 rfl ?_
          refine q_iastX dX12_readEvent_127 (kR55 hS536.1 ta543) (ti_in (nR55 hS536.1 ta543) (by omega) (by omega)) hS536 ta543 (by rfl) (hS536.1.putH (m := a1) ta1 d544 (by rw [c539]; exact Int.le_of_eq (ti_nat (by omega)).symm) (by omega)) ?_
          intro I549 hS550 e551 f552
          have c553 : I549 a1 2 = v11 := (f552 _ _ (fun q => by have z := ta1; rw [q.1, ta543] at z; exact absurd z (by decide))).trans c539
          have c554 : I549 a0 9 = v513 := (f552 _ _ (fun q => by have z := ta0; rw [q.1, ta543] at z; exact absurd z (by decide))).trans c540
          have c555 : I549 a0 8 = v517 := (f552 _ _ (fun q => by have z := ta0; rw [q.1, ta543] at z; exact absurd z (by decide))).trans c541
          have c556 : I549 a0 13 = v522 := (f552 _ _ (fun q => by have z := ta0; rw [q.1, ta543] at z; exact absurd z (by decide))).trans c542
          have c557 : I549 a529 v11.toNatClampNeg = x1 := (f552 _ _ (fun q => by have z := ta529; rw [q.1, ta543] at z; exact absurd z (by decide))).trans e537
          refine tr_aload_n dX12_readEvent_128 rfl ?_
          refine tr_getR dX12_readEvent_129 fl12_188 (kR15 hS550.1 ta0) d2 ?_
          obtain ⟨a558, d559, ta558⟩ := rf14_13 hW0 ta1
          refine tr_getR dX12_readEvent_132 fl12_280 (kR14 hS550.1 ta1) d559 ?_
          refine tr_iload dX12_readEvent_135 rfl ?_
          refine tr_iload_n dX12_readEvent_137 rfl ?_
          refine q_iast dX12_readEvent_138 (kR56 hS550.1 ta558) (ti_in (nR56 hS550.1 ta558) (by omega) (by omega)) hS550 ta558 (by show (0 : Int) ≤ v473.toInt ∧ v473.toInt ≤ (240 : Int); omega) rfl (by rfl) ?_
          intro I560 hS561 e563 f562
          have c564 : I560 a1 2 = v11 := (f562 _ _ (fun q => by have z := ta1; rw [q.1, ta558] at z; exact absurd z (by decide))).trans c553
          have c565 : I560 a0 9 = v513 := (f562 _ _ (fun q => by have z := ta0; rw [q.1, ta558] at z; exact absurd z (by decide))).trans c554
          have c566 : I560 a0 8 = v517 := (f562 _ _ (fun q => by have z := ta0; rw [q.1, ta558] at z; exact absurd z (by decide))).trans c555
          have c567 : I560 a0 13 = v522 := (f562 _ _ (fun q => by have z := ta0; rw [q.1, ta558] at z; exact absurd z (by decide))).trans c556
          have c568 : I560 a529 v11.toNatClampNeg = x1 := (f562 _ _ (fun q => by have z := ta529; rw [q.1, ta558] at z; exact absurd z (by decide))).trans c557
          have c569 : I560 a543 v11.toNatClampNeg = v439 := (f562 _ _ (fun q => by have z := ta543; rw [q.1, ta558] at z; exact absurd z (by decide))).trans e551
          refine tr_aload_n dX12_readEvent_139 rfl ?_
          refine tr_getR dX12_readEvent_140 fl12_188 (kR15 hS561.1 ta0) d2 ?_
          obtain ⟨a570, d571, ta570⟩ := rf14_14 hW0 ta1
          refine tr_getR dX12_readEvent_143 fl12_283 (kR14 hS561.1 ta1) d571 ?_
          refine tr_iload dX12_readEvent_146 rfl ?_
          refine tr_iload dX12_readEvent_148 rfl ?_
          refine q_iast dX12_readEvent_150 (kR57 hS561.1 ta570) (ti_in (nR57 hS561.1 ta570) (by omega) (by omega)) hS561 ta570 (by show (0 : Int) ≤ v505.toInt ∧ v505.toInt ≤ (240 : Int); omega) rfl (by rfl) ?_
          intro I572 hS573 e575 f574
          have c576 : I572 a1 2 = v11 := (f574 _ _ (fun q => by have z := ta1; rw [q.1, ta570] at z; exact absurd z (by decide))).trans c564
          have c577 : I572 a0 9 = v513 := (f574 _ _ (fun q => by have z := ta0; rw [q.1, ta570] at z; exact absurd z (by decide))).trans c565
          have c578 : I572 a0 8 = v517 := (f574 _ _ (fun q => by have z := ta0; rw [q.1, ta570] at z; exact absurd z (by decide))).trans c566
          have c579 : I572 a0 13 = v522 := (f574 _ _ (fun q => by have z := ta0; rw [q.1, ta570] at z; exact absurd z (by decide))).trans c567
          have c580 : I572 a529 v11.toNatClampNeg = x1 := (f574 _ _ (fun q => by have z := ta529; rw [q.1, ta570] at z; exact absurd z (by decide))).trans c568
          have c581 : I572 a543 v11.toNatClampNeg = v439 := (f574 _ _ (fun q => by have z := ta543; rw [q.1, ta570] at z; exact absurd z (by decide))).trans c569
          refine tr_aload_n dX12_readEvent_151 rfl ?_
          refine tr_getR dX12_readEvent_152 fl12_188 (kR15 hS573.1 ta0) d2 ?_
          refine tr_dup dX12_readEvent_155 rfl ?_
          refine q_getI dX12_readEvent_156 fl12_265 (kR14 hS573.1 ta1) c576 ?_
          refine q_iconst dX12_readEvent_159 (by decide) ?_
          intro v582 h583
          refine q_iaddE dX12_readEvent_160 (by intros; omega) ?_
          intro v584 h585
          refine q_putX dX12_readEvent_161 fl12_265 (kR14 hS573.1 ta1) (Or.inl rfl) hS573 ta1 (by decide +kernel) (hS573.1.putE (i := v11.toNatClampNeg) ta1 d530 d544 (by rw [c576]; exact (ti_nat (by omega)).symm) (by rw [c576]; omega) (by omega) (by rw [c580, c581]; omega)) ?_
          intro I586 hS587 e588 f589
          have c590 : I586 a0 9 = v513 := (f589 _ _ (fun q => absurd q.2 (by decide))).trans c577
          have c591 : I586 a0 8 = v517 := (f589 _ _ (fun q => absurd q.2 (by decide))).trans c578
          have c592 : I586 a0 13 = v522 := (f589 _ _ (fun q => absurd q.2 (by decide))).trans c579
          have c593 : I586 a529 v11.toNatClampNeg = x1 := (f589 _ _ (fun q => by have z := ta529; rw [q.1, ta1] at z; exact absurd z (by decide))).trans c580
          have c594 : I586 a543 v11.toNatClampNeg = v439 := (f589 _ _ (fun q => by have z := ta543; rw [q.1, ta1] at z; exact absurd z (by decide))).trans c581
          exact tr_vret hZ dX12_readEvent_164 rfl (by decide) (by decide) ⟨rfl, rfl, rfl, rfl, rfl, hS587, (by (try rw [c4]); (try rw [c590]); (try omega)), (by (try rw [c591]); (try rw [c7]); (try omega)), (by (try rw [c590]); (try rw [c591]); (try rw [c7]); (try omega)), (by (try rw [c4]); (try rw [c10]); (try rw [c590]); (try rw [c592]); (try omega)), trivial⟩
        · skip
          exact tr_vret hZ dX12_readEvent_96 rfl (by decide) (by decide) ⟨rfl, rfl, rfl, rfl, rfl, hS511, (by (try rw [c4]); (try rw [c514]); (try omega)), (by (try rw [c518]); (try rw [c7]); (try omega)), (by (try rw [c514]); (try rw [c518]); (try rw [c7]); (try omega)), (by (try rw [c4]); (try rw [c10]); (try rw [c514]); (try rw [c523]); (try omega)), trivial⟩
      · skip
        exfalso; omega
def wi_X12_needsSign : List Nat := [968, 969, 970, 971, 972, 973, 974]
def wr_X12_needsSign : List Nat := []
set_option maxHeartbeats 4000000 in
theorem k_X12_needsSign {l : Launch} {T : Nat → Nat} {cn : Nat} {K N : Nat → Nat} {I0 : cz_I} {R0 : cz_R} {L0 : cz_L} {d : Int} (hW0 : Wf T cn K N I0 R0 d) {a0 : Nat} (ta0 : T a0 = 15) {x1 : Int32} : ConE l mX12_needsSign [.ref a0, .int x1] cn K N I0 R0 L0 (ca_v (fun cn' K' N' I' R' L' => cn = cn' ∧ K = K' ∧ N = N' ∧ R0 = R' ∧ St T cn K N d wi_X12_needsSign wr_X12_needsSign I0 R0 I' R0 ∧ (((I0 a0 9).toInt = 5 → (I' a0 9).toInt = 5)) ∧ ((I' a0 8).toInt ≥ (I0 a0 8).toInt) ∧ (((2 ≤ (I' a0 9).toInt ∧ (I' a0 9).toInt ≤ 4) → (I' a0 8).toInt ≥ (I0 a0 8).toInt + 1)) ∧ ((((I0 a0 9).toInt = 5 → (I0 a0 13).toInt ≥ 1) → ((I' a0 9).toInt = 5 → (I' a0 13).toInt ≥ 1))) ∧ True)) := by
  refine ConE.of (by decide +kernel) rfl (Nat.le_of_ble_eq_true rfl) rfl (fun X hX hZ hE => ?_)
  subst hX
  have hS0 : St T cn K N d wi_X12_needsSign wr_X12_needsSign I0 R0 I0 R0 := St.rf0 hW0
  obtain ⟨v1, c2⟩ : ∃ v, I0 a0 9 = v := ⟨_, rfl⟩
  have b3 := iv15_9 hS0.1 ta0 c2
  obtain ⟨v4, c5⟩ : ∃ v, I0 a0 8 = v := ⟨_, rfl⟩
  have b6 := iv15_8 hS0.1 ta0 c5
  obtain ⟨v7, c8⟩ : ∃ v, I0 a0 13 = v := ⟨_, rfl⟩
  refine tr_aload_n dX12_needsSign_0 rfl ?_
  refine q_getI dX12_needsSign_1 fl12_99 (kR15 hS0.1 ta0) c2 ?_
  refine q_iconst dX12_needsSign_4 (by decide) ?_
  intro v9 h10
  refine q_icmp_ne 16 dX12_needsSign_5 (by decide) (fun h11 => ?_) (fun h11 => ?_)
  · skip
    refine tr_aload_n dX12_needsSign_16 rfl ?_
    refine q_iconst dX12_needsSign_17 (by decide) ?_
    intro v12 h13
    refine q_callVv hE (M' := mX12_flaw) (as := [_]) dX12_needsSign_18 lk12_145 inX12_flaw seX12_flaw myX12_flaw (by decide) ⟨by decide, by decide⟩ rfl (kR15 hS0.1 ta0) (Nat.le_of_ble_eq_true rfl) rfl rfl (by decide) (by decide) (k_X12_flaw hS0.1 ta0 (by omega)) ?_
    rintro cn' K' N' I14 R15 L16 ⟨rfl, rfl, rfl, rfl, rfl, g17, p19, p20, -⟩
    have hS21 := hS0.tr g17 (by decide +kernel) (by decide +kernel)
    have c22 : I14 a0 8 = v4 := (g17.cell ta0 (by decide +kernel)).trans c5
    obtain ⟨v23, c24⟩ : ∃ v, I14 a0 9 = v := ⟨_, rfl⟩
    have b25 := iv15_9 hS21.1 ta0 c24
    have p26 := p19
    rw [c24] at p26
    obtain ⟨v27, c28⟩ : ∃ v, I14 a0 13 = v := ⟨_, rfl⟩
    have p29 := p20
    rw [c2] at p29
    rw [c8] at p29
    rw [c28] at p29
    refine tr_aload_n dX12_needsSign_21 rfl ?_
    refine q_callVv hE (M' := mX12_goesOn) (as := []) dX12_needsSign_22 lk12_142 inX12_goesOn seX12_goesOn myX12_goesOn (by decide) ⟨by decide, by decide⟩ rfl (kR15 hS21.1 ta0) (Nat.le_of_ble_eq_true rfl) rfl rfl (by decide) (by decide) (k_X12_goesOn hS21.1 ta0) ?_
    rintro cn' K' N' I30 R31 L32 ⟨rfl, rfl, rfl, rfl, g33, p35, p36, p37, p38, -⟩
    have hS39 := hS21.tr g33 (by decide +kernel) (by decide +kernel)
    have c40 : I30 a0 13 = v27 := (g33.cell ta0 (by decide +kernel)).trans c28
    obtain ⟨v41, c42⟩ : ∃ v, I30 a0 9 = v := ⟨_, rfl⟩
    have b43 := iv15_9 hS39.1 ta0 c42
    obtain ⟨v44, c45⟩ : ∃ v, I30 a0 8 = v := ⟨_, rfl⟩
    have b46 := iv15_8 hS39.1 ta0 c45
    have p47 := p35
    rw [c24] at p47
    rw [c42] at p47
    rw [c45] at p47
    rw [c22] at p47
    have p48 := p36
    rw [c24] at p48
    rw [c42] at p48
    have p49 := p37
    rw [c45] at p49
    rw [c22] at p49
    have p50 := p38
    rw [c24] at p50
    rw [c42] at p50
    rw [c45] at p50
    rw [c22] at p50
    exact tr_vret hZ dX12_needsSign_25 rfl (by decide) (by decide) ⟨rfl, rfl, rfl, rfl, rfl, hS39, (by (try rw [c2]); (try rw [c42]); (try omega)), (by (try rw [c45]); (try rw [c5]); (try omega)), (by (try rw [c42]); (try rw [c45]); (try rw [c5]); (try omega)), (by (try rw [c2]); (try rw [c8]); (try rw [c42]); (try rw [c40]); (try omega)), trivial⟩
  · skip
    refine tr_aload_n dX12_needsSign_8 rfl ?_
    obtain ⟨v51, c52⟩ : ∃ v, I0 a0 11 = v := ⟨_, rfl⟩
    refine q_getI dX12_needsSign_9 fl12_111 (kR15 hS0.1 ta0) c52 ?_
    refine tr_iload_n dX12_needsSign_12 rfl ?_
    refine q_icmp_eq 21 dX12_needsSign_13 (by decide) (fun h53 => ?_) (fun h53 => ?_)
    · skip
      refine tr_aload_n dX12_needsSign_21 rfl ?_
      refine q_callVv hE (M' := mX12_goesOn) (as := []) dX12_needsSign_22 lk12_142 inX12_goesOn seX12_goesOn myX12_goesOn (by decide) ⟨by decide, by decide⟩ rfl (kR15 hS0.1 ta0) (Nat.le_of_ble_eq_true rfl) rfl rfl (by decide) (by decide) (k_X12_goesOn hS0.1 ta0) ?_
      rintro cn' K' N' I54 R55 L56 ⟨rfl, rfl, rfl, rfl, g57, p59, p60, p61, p62, -⟩
      have hS63 := hS0.tr g57 (by decide +kernel) (by decide +kernel)
      have c64 : I54 a0 13 = v7 := (g57.cell ta0 (by decide +kernel)).trans c8
      obtain ⟨v65, c66⟩ : ∃ v, I54 a0 9 = v := ⟨_, rfl⟩
      have b67 := iv15_9 hS63.1 ta0 c66
      obtain ⟨v68, c69⟩ : ∃ v, I54 a0 8 = v := ⟨_, rfl⟩
      have b70 := iv15_8 hS63.1 ta0 c69
      have p71 := p59
      rw [c2] at p71
      rw [c66] at p71
      rw [c69] at p71
      rw [c5] at p71
      have p72 := p60
      rw [c2] at p72
      rw [c66] at p72
      have p73 := p61
      rw [c69] at p73
      rw [c5] at p73
      have p74 := p62
      rw [c2] at p74
      rw [c66] at p74
      rw [c69] at p74
      rw [c5] at p74
      exact tr_vret hZ dX12_needsSign_25 rfl (by decide) (by decide) ⟨rfl, rfl, rfl, rfl, rfl, hS63, (by (try rw [c2]); (try rw [c66]); (try omega)), (by (try rw [c69]); (try rw [c5]); (try omega)), (by (try rw [c66]); (try rw [c69]); (try rw [c5]); (try omega)), (by (try rw [c2]); (try rw [c8]); (try rw [c66]); (try rw [c64]); (try omega)), trivial⟩
    · skip
      refine tr_aload_n dX12_needsSign_16 rfl ?_
      refine q_iconst dX12_needsSign_17 (by decide) ?_
      intro v75 h76
      refine q_callVv hE (M' := mX12_flaw) (as := [_]) dX12_needsSign_18 lk12_145 inX12_flaw seX12_flaw myX12_flaw (by decide) ⟨by decide, by decide⟩ rfl (kR15 hS0.1 ta0) (Nat.le_of_ble_eq_true rfl) rfl rfl (by decide) (by decide) (k_X12_flaw hS0.1 ta0 (by omega)) ?_
      rintro cn' K' N' I77 R78 L79 ⟨rfl, rfl, rfl, rfl, rfl, g80, p82, p83, -⟩
      have hS84 := hS0.tr g80 (by decide +kernel) (by decide +kernel)
      have c85 : I77 a0 8 = v4 := (g80.cell ta0 (by decide +kernel)).trans c5
      have c86 : I77 a0 11 = v51 := (g80.cell ta0 (by decide +kernel)).trans c52
      obtain ⟨v87, c88⟩ : ∃ v, I77 a0 9 = v := ⟨_, rfl⟩
      have b89 := iv15_9 hS84.1 ta0 c88
      have p90 := p82
      rw [c88] at p90
      obtain ⟨v91, c92⟩ : ∃ v, I77 a0 13 = v := ⟨_, rfl⟩
      have p93 := p83
      rw [c2] at p93
      rw [c8] at p93
      rw [c92] at p93
      refine tr_aload_n dX12_needsSign_21 rfl ?_
      refine q_callVv hE (M' := mX12_goesOn) (as := []) dX12_needsSign_22 lk12_142 inX12_goesOn seX12_goesOn myX12_goesOn (by decide) ⟨by decide, by decide⟩ rfl (kR15 hS84.1 ta0) (Nat.le_of_ble_eq_true rfl) rfl rfl (by decide) (by decide) (k_X12_goesOn hS84.1 ta0) ?_
      rintro cn' K' N' I94 R95 L96 ⟨rfl, rfl, rfl, rfl, g97, p99, p100, p101, p102, -⟩
      have hS103 := hS84.tr g97 (by decide +kernel) (by decide +kernel)
      have c104 : I94 a0 13 = v91 := (g97.cell ta0 (by decide +kernel)).trans c92
      obtain ⟨v105, c106⟩ : ∃ v, I94 a0 9 = v := ⟨_, rfl⟩
      have b107 := iv15_9 hS103.1 ta0 c106
      obtain ⟨v108, c109⟩ : ∃ v, I94 a0 8 = v := ⟨_, rfl⟩
      have b110 := iv15_8 hS103.1 ta0 c109
      have p111 := p99
      rw [c88] at p111
      rw [c106] at p111
      rw [c109] at p111
      rw [c85] at p111
      have p112 := p100
      rw [c88] at p112
      rw [c106] at p112
      have p113 := p101
      rw [c109] at p113
      rw [c85] at p113
      have p114 := p102
      rw [c88] at p114
      rw [c106] at p114
      rw [c109] at p114
      rw [c85] at p114
      exact tr_vret hZ dX12_needsSign_25 rfl (by decide) (by decide) ⟨rfl, rfl, rfl, rfl, rfl, hS103, (by (try rw [c2]); (try rw [c106]); (try omega)), (by (try rw [c109]); (try rw [c5]); (try omega)), (by (try rw [c106]); (try rw [c109]); (try rw [c5]); (try omega)), (by (try rw [c2]); (try rw [c8]); (try rw [c106]); (try rw [c104]); (try omega)), trivial⟩
def wi_X12_readAlp : List Nat := [896, 897, 968, 969, 970, 971, 972, 973, 974, 3455]
def wr_X12_readAlp : List Nat := []
set_option maxHeartbeats 4000000 in
theorem k_X12_readAlp {l : Launch} {T : Nat → Nat} {cn : Nat} {K N : Nat → Nat} {I0 : cz_I} {R0 : cz_R} {L0 : cz_L} {d : Int} (hW0 : Wf T cn K N I0 R0 d) {a0 : Nat} (ta0 : T a0 = 15) (nn4 : ∃ b, R0 a0 4 = some b) : ConE l mX12_readAlp [.ref a0] cn K N I0 R0 L0 (ca_v (fun cn' K' N' I' R' L' => cn = cn' ∧ K = K' ∧ N = N' ∧ R0 = R' ∧ St T cn K N d wi_X12_readAlp wr_X12_readAlp I0 R0 I' R0 ∧ (((I0 a0 9).toInt = 5 → (I' a0 9).toInt = 5)) ∧ ((I' a0 8).toInt ≥ (I0 a0 8).toInt) ∧ (((2 ≤ (I' a0 9).toInt ∧ (I' a0 9).toInt ≤ 4) → (I' a0 8).toInt ≥ (I0 a0 8).toInt + 1)) ∧ ((((I0 a0 9).toInt = 5 → (I0 a0 13).toInt ≥ 1) → ((I' a0 9).toInt = 5 → (I' a0 13).toInt ≥ 1))) ∧ True)) := by
  refine ConE.of (by decide +kernel) rfl (Nat.le_of_ble_eq_true rfl) rfl (fun X hX hZ hE => ?_)
  subst hX
  have hS0 : St T cn K N d wi_X12_readAlp wr_X12_readAlp I0 R0 I0 R0 := St.rf0 hW0
  obtain ⟨a1, d2⟩ := nn4
  have ta1 : T a1 = 14 := hW0.rsN ta0 rfl d2
  obtain ⟨v3, c4⟩ : ∃ v, I0 a0 9 = v := ⟨_, rfl⟩
  have b5 := iv15_9 hS0.1 ta0 c4
  obtain ⟨v6, c7⟩ : ∃ v, I0 a0 8 = v := ⟨_, rfl⟩
  have b8 := iv15_8 hS0.1 ta0 c7
  obtain ⟨v9, c10⟩ : ∃ v, I0 a0 13 = v := ⟨_, rfl⟩
  refine tr_aload_n dX12_readAlp_0 rfl ?_
  refine tr_getR dX12_readAlp_1 fl12_188 (kR15 hS0.1 ta0) d2 ?_
  obtain ⟨v11, c12⟩ : ∃ v, I0 a1 0 = v := ⟨_, rfl⟩
  have b13 := iv14_0 hS0.1 ta1 c12
  refine q_getI dX12_readAlp_4 fl12_192 (kR14 hS0.1 ta1) c12 ?_
  refine q_if_le 15 dX12_readAlp_7 (by decide) (fun h14 => ?_) (fun h14 => ?_)
  · skip
    refine tr_aload_n dX12_readAlp_15 rfl ?_
    refine q_callVv hE (M' := mX12_goesOn) (as := []) dX12_readAlp_16 lk12_142 inX12_goesOn seX12_goesOn myX12_goesOn (by decide) ⟨by decide, by decide⟩ rfl (kR15 hS0.1 ta0) (Nat.le_of_ble_eq_true rfl) rfl rfl (by decide) (by decide) (k_X12_goesOn hS0.1 ta0) ?_
    rintro cn' K' N' I15 R16 L17 ⟨rfl, rfl, rfl, rfl, g18, p20, p21, p22, p23, -⟩
    have hS24 := hS0.tr g18 (by decide +kernel) (by decide +kernel)
    have c25 : I15 a0 13 = v9 := (g18.cell ta0 (by decide +kernel)).trans c10
    have c26 : I15 a1 0 = v11 := (g18.cell ta1 (by decide +kernel)).trans c12
    obtain ⟨v27, c28⟩ : ∃ v, I15 a0 9 = v := ⟨_, rfl⟩
    have b29 := iv15_9 hS24.1 ta0 c28
    obtain ⟨v30, c31⟩ : ∃ v, I15 a0 8 = v := ⟨_, rfl⟩
    have b32 := iv15_8 hS24.1 ta0 c31
    have p33 := p20
    rw [c4] at p33
    rw [c28] at p33
    rw [c31] at p33
    rw [c7] at p33
    have p34 := p21
    rw [c4] at p34
    rw [c28] at p34
    have p35 := p22
    rw [c31] at p35
    rw [c7] at p35
    have p36 := p23
    rw [c4] at p36
    rw [c28] at p36
    rw [c31] at p36
    rw [c7] at p36
    refine tr_aload_n dX12_readAlp_19 rfl ?_
    refine tr_ldcS dX12_readAlp_20 ld12_248 ?_
    refine q_bipush dX12_readAlp_22 (by decide +kernel) ?_
    intro v37 h38
    refine q_sipush dX12_readAlp_24 (by decide +kernel) ?_
    intro v39 h40
    refine q_callVi hE (M' := mX12_readPart) (as := [_, _, _]) dX12_readAlp_27 lk12_249 inX12_readPart seX12_readPart myX12_readPart (by decide) ⟨by decide, by decide⟩ rfl (kR15 hS24.1 ta0) (Nat.le_of_ble_eq_true rfl) rfl rfl (by decide) (by decide) (k_X12_readPart hS24.1 ta0 (by decide)) ?_
    rintro v45 cn' K' N' I41 R42 L43 ⟨rfl, rfl, rfl, rfl, g44, p46, p47, p48, p49, p50, -⟩
    have hS51 := hS24.tr g44 (by decide +kernel) (by decide +kernel)
    have c52 : I41 a1 0 = v11 := (g44.cell ta1 (by decide +kernel)).trans c26
    obtain ⟨v53, c54⟩ : ∃ v, I41 a0 9 = v := ⟨_, rfl⟩
    have b55 := iv15_9 hS51.1 ta0 c54
    have p56 := p46
    rw [c28] at p56
    rw [c54] at p56
    obtain ⟨v57, c58⟩ : ∃ v, I41 a0 8 = v := ⟨_, rfl⟩
    have b59 := iv15_8 hS51.1 ta0 c58
    have p60 := p47
    rw [c58] at p60
    rw [c31] at p60
    have p61 := p48
    rw [c54] at p61
    rw [c58] at p61
    rw [c31] at p61
    obtain ⟨v62, c63⟩ : ∃ v, I41 a0 13 = v := ⟨_, rfl⟩
    have p64 := p49
    rw [c28] at p64
    rw [c25] at p64
    rw [c54] at p64
    rw [c63] at p64
    have p65 := p50
    refine tr_istore_n dX12_readAlp_30 (by decide) (by decide) ?_
    refine tr_aload_n dX12_readAlp_31 rfl ?_
    refine tr_ldcS dX12_readAlp_32 ld12_253 ?_
    refine q_iconst dX12_readAlp_34 (by decide) ?_
    intro v66 h67
    refine q_iconst dX12_readAlp_35 (by decide) ?_
    intro v68 h69
    refine q_callVi hE (M' := mX12_readPart) (as := [_, _, _]) dX12_readAlp_36 lk12_249 inX12_readPart seX12_readPart myX12_readPart (by decide) ⟨by decide, by decide⟩ rfl (kR15 hS51.1 ta0) (Nat.le_of_ble_eq_true rfl) rfl rfl (by decide) (by decide) (k_X12_readPart hS51.1 ta0 (by decide)) ?_
    rintro v74 cn' K' N' I70 R71 L72 ⟨rfl, rfl, rfl, rfl, g73, p75, p76, p77, p78, p79, -⟩
    have hS80 := hS51.tr g73 (by decide +kernel) (by decide +kernel)
    have c81 : I70 a1 0 = v11 := (g73.cell ta1 (by decide +kernel)).trans c52
    obtain ⟨v82, c83⟩ : ∃ v, I70 a0 9 = v := ⟨_, rfl⟩
    have b84 := iv15_9 hS80.1 ta0 c83
    have p85 := p75
    rw [c54] at p85
    rw [c83] at p85
    obtain ⟨v86, c87⟩ : ∃ v, I70 a0 8 = v := ⟨_, rfl⟩
    have b88 := iv15_8 hS80.1 ta0 c87
    have p89 := p76
    rw [c87] at p89
    rw [c58] at p89
    have p90 := p77
    rw [c83] at p90
    rw [c87] at p90
    rw [c58] at p90
    obtain ⟨v91, c92⟩ : ∃ v, I70 a0 13 = v := ⟨_, rfl⟩
    have p93 := p78
    rw [c54] at p93
    rw [c63] at p93
    rw [c83] at p93
    rw [c92] at p93
    have p94 := p79
    refine tr_istore_n dX12_readAlp_39 (by decide) (by decide) ?_
    refine tr_aload_n dX12_readAlp_40 rfl ?_
    refine tr_ldcS dX12_readAlp_41 ld12_255 ?_
    refine q_callVv hE (M' := mX12_needs) (as := [_]) dX12_readAlp_43 lk12_157 inX12_needs seX12_needs myX12_needs (by decide) ⟨by decide, by decide⟩ rfl (kR15 hS80.1 ta0) (Nat.le_of_ble_eq_true rfl) rfl rfl (by decide) (by decide) (k_X12_needs hS80.1 ta0 (by decide)) ?_
    rintro cn' K' N' I95 R96 L97 ⟨rfl, rfl, rfl, rfl, g98, p100, p101, p102, p103, -⟩
    have hS104 := hS80.tr g98 (by decide +kernel) (by decide +kernel)
    have c105 : I95 a1 0 = v11 := (g98.cell ta1 (by decide +kernel)).trans c81
    obtain ⟨v106, c107⟩ : ∃ v, I95 a0 9 = v := ⟨_, rfl⟩
    have b108 := iv15_9 hS104.1 ta0 c107
    have p109 := p100
    rw [c83] at p109
    rw [c107] at p109
    obtain ⟨v110, c111⟩ : ∃ v, I95 a0 8 = v := ⟨_, rfl⟩
    have b112 := iv15_8 hS104.1 ta0 c111
    have p113 := p101
    rw [c111] at p113
    rw [c87] at p113
    have p114 := p102
    rw [c107] at p114
    rw [c111] at p114
    rw [c87] at p114
    obtain ⟨v115, c116⟩ : ∃ v, I95 a0 13 = v := ⟨_, rfl⟩
    have p117 := p103
    rw [c83] at p117
    rw [c92] at p117
    rw [c107] at p117
    rw [c116] at p117
    refine q_iconst dX12_readAlp_46 (by decide) ?_
    intro v118 h119
    refine tr_istore_n dX12_readAlp_47 (by decide) (by decide) ?_
    have lp139 : ∀ (fu : Nat) (ls : Nat → Option Value) (v120 : Int32) (I125 : cz_I) (L126 : cz_L) (v128 : Int32) (v130 : Int32) (v132 : Int32), ls 0 = some (.ref a0) → ls 1 = some (.int v45) → ls 2 = some (.int v74) → ls 3 = some (.int v120) → St T cn K N d wi_X12_readAlp wr_X12_readAlp I0 R0 I125 R0 → I125 a0 9 = v128 → I125 a0 8 = v130 → I125 a0 13 = v132 → (v3.toInt = 5 → v128.toInt = 5) → v130.toInt ≥ v6.toInt → ((2 ≤ v128.toInt ∧ v128.toInt ≤ 4) → v130.toInt ≥ v6.toInt + 1) → ((v3.toInt = 5 → v9.toInt ≥ 1) → (v128.toInt = 5 → v132.toInt ≥ 1)) → 0 ≤ v120.toInt → (-v120.toInt + 2147483647).toNat < fu → Tr X mX12_readAlp 48 ls [] cn K N I125 R0 L126 0 0 := by
      intro fu
      induction fu with
      | zero => intros; rename_i hz; exact absurd hz (Nat.not_lt_zero _)
      | succ fu ih139 =>
        intro ls v120 I125 L126 v128 v130 v132 hl121 hl122 hl123 hl124 hS127 c129 c131 c133 g134 g135 g136 g137 g138 hm139
        have b141 := iv15_9 hS127.1 ta0 c129
        have b142 := iv15_8 hS127.1 ta0 c131
        refine tr_iload_n dX12_readAlp_48 hl124 ?_
        refine q_iconst dX12_readAlp_49 (by decide) ?_
        intro v143 h144
        refine q_icmp_ge 85 dX12_readAlp_50 (by decide) (fun h145 => ?_) (fun h145 => ?_)
        · skip
          refine tr_aload_n dX12_readAlp_85 hl121 ?_
          refine q_getI dX12_readAlp_86 fl12_99 (kR15 hS127.1 ta0) c129 ?_
          refine q_iconst dX12_readAlp_89 (by decide) ?_
          intro v146 h147
          refine q_icmp_ne 94 dX12_readAlp_90 (by decide) (fun h148 => ?_) (fun h148 => ?_)
          · skip
            refine tr_aload_n dX12_readAlp_94 hl121 ?_
            refine tr_getR dX12_readAlp_95 fl12_188 (kR15 hS127.1 ta0) d2 ?_
            refine tr_iload_n dX12_readAlp_98 hl122 ?_
            refine q_putX dX12_readAlp_99 fl12_192 (kR14 hS127.1 ta1) (Or.inl rfl) hS127 ta1 (by decide +kernel) (hS127.1.putM ta1 (by omega)) ?_
            intro I149 hS150 e151 f152
            have c153 : I149 a0 9 = v128 := (f152 _ _ (fun q => absurd q.2 (by decide))).trans c129
            have c154 : I149 a0 8 = v130 := (f152 _ _ (fun q => absurd q.2 (by decide))).trans c131
            have c155 : I149 a0 13 = v132 := (f152 _ _ (fun q => absurd q.2 (by decide))).trans c133
            refine tr_aload_n dX12_readAlp_102 hl121 ?_
            refine tr_getR dX12_readAlp_103 fl12_188 (kR15 hS150.1 ta0) d2 ?_
            refine tr_iload_n dX12_readAlp_106 hl123 ?_
            refine q_putI dX12_readAlp_107 fl12_263 (kR14 hS150.1 ta1) (Or.inl rfl) hS150 ta1 (by show (0 : Int) ≤ v74.toInt ∧ v74.toInt ≤ (4 : Int); omega) rfl (by decide +kernel) ?_
            intro I156 hS157 e158 f159
            have c160 : I156 a0 9 = v128 := (f159 _ _ (fun q => absurd q.2 (by decide))).trans c153
            have c161 : I156 a0 8 = v130 := (f159 _ _ (fun q => absurd q.2 (by decide))).trans c154
            have c162 : I156 a0 13 = v132 := (f159 _ _ (fun q => absurd q.2 (by decide))).trans c155
            have c163 : I156 a1 0 = v45 := (f159 _ _ (fun q => absurd q.2 (by decide))).trans e151
            exact tr_vret hZ dX12_readAlp_110 rfl (by decide) (by decide) ⟨rfl, rfl, rfl, rfl, rfl, hS157, (by (try rw [c4]); (try rw [c160]); (try omega)), (by (try rw [c161]); (try rw [c7]); (try omega)), (by (try rw [c160]); (try rw [c161]); (try rw [c7]); (try omega)), (by (try rw [c4]); (try rw [c10]); (try rw [c160]); (try rw [c162]); (try omega)), trivial⟩
          · skip
            exact tr_vret hZ dX12_readAlp_93 rfl (by decide) (by decide) ⟨rfl, rfl, rfl, rfl, rfl, hS127, (by (try rw [c4]); (try rw [c129]); (try omega)), (by (try rw [c131]); (try rw [c7]); (try omega)), (by (try rw [c129]); (try rw [c131]); (try rw [c7]); (try omega)), (by (try rw [c4]); (try rw [c10]); (try rw [c129]); (try rw [c133]); (try omega)), trivial⟩
        · skip
          refine tr_iload_n dX12_readAlp_53 hl124 ?_
          refine q_if_le 63 dX12_readAlp_54 (by decide) (fun h164 => ?_) (fun h164 => ?_)
          · skip
            refine tr_aload_n dX12_readAlp_63 hl121 ?_
            refine tr_getR dX12_readAlp_64 fl12_188 (kR15 hS127.1 ta0) d2 ?_
            obtain ⟨a165, d166, ta165⟩ := rf14_10 hW0 ta1
            refine tr_getR dX12_readAlp_67 fl12_260 (kR14 hS127.1 ta1) d166 ?_
            refine tr_iload_n dX12_readAlp_70 hl124 ?_
            refine tr_aload_n dX12_readAlp_71 hl121 ?_
            refine q_iconst dX12_readAlp_72 (by decide) ?_
            intro v167 h168
            refine q_bipush dX12_readAlp_73 (by decide +kernel) ?_
            intro v169 h170
            refine q_callVi hE (M' := mX12_readWhole) (as := [_, _]) dX12_readAlp_75 lk12_161 inX12_readWhole seX12_readWhole myX12_readWhole (by decide) ⟨by decide, by decide⟩ rfl (kR15 hS127.1 ta0) (Nat.le_of_ble_eq_true rfl) rfl rfl (by decide) (by decide) (k_X12_readWhole hS127.1 ta0) ?_
            rintro v175 cn' K' N' I171 R172 L173 ⟨rfl, rfl, rfl, rfl, g174, p176, p177, p178, p179, p180, -⟩
            have hS181 := hS127.tr g174 (by decide +kernel) (by decide +kernel)
            obtain ⟨v182, c183⟩ : ∃ v, I171 a0 9 = v := ⟨_, rfl⟩
            have b184 := iv15_9 hS181.1 ta0 c183
            have p185 := p176
            rw [c129] at p185
            rw [c183] at p185
            obtain ⟨v186, c187⟩ : ∃ v, I171 a0 8 = v := ⟨_, rfl⟩
            have b188 := iv15_8 hS181.1 ta0 c187
            have p189 := p177
            rw [c187] at p189
            rw [c131] at p189
            have p190 := p178
            rw [c183] at p190
            rw [c187] at p190
            rw [c131] at p190
            obtain ⟨v191, c192⟩ : ∃ v, I171 a0 13 = v := ⟨_, rfl⟩
            have p193 := p179
            rw [c129] at p193
            rw [c133] at p193
            rw [c183] at p193
            rw [c192] at p193
            have p194 := p180
            refine q_iast dX12_readAlp_78 (kR53 hS181.1 ta165) (ti_in (nR53 hS181.1 ta165) (by omega) (by omega)) hS181 ta165 (iokF rfl) rfl (by rfl) ?_
            intro I195 hS196 e198 f197
            have c199 : I195 a0 9 = v182 := (f197 _ _ (fun q => by have z := ta0; rw [q.1, ta165] at z; exact absurd z (by decide))).trans c183
            have c200 : I195 a0 8 = v186 := (f197 _ _ (fun q => by have z := ta0; rw [q.1, ta165] at z; exact absurd z (by decide))).trans c187
            have c201 : I195 a0 13 = v191 := (f197 _ _ (fun q => by have z := ta0; rw [q.1, ta165] at z; exact absurd z (by decide))).trans c192
            refine q_iincE dX12_readAlp_79 hl124 (by decide) (by decide) (by intros; omega) ?_
            intro v202 h203
            refine tr_goto 48 dX12_readAlp_82 (by decide) ?_
            exact ih139 _ v202 I195 L173 v182 v186 v191 hl121 hl122 hl123 rfl hS196 c199 c200 c201 (by omega) (by omega) (by omega) (by omega) (by omega) (by omega)
          · skip
            refine tr_aload_n dX12_readAlp_57 hl121 ?_
            refine q_bipush dX12_readAlp_58 (by decide +kernel) ?_
            intro v204 h205
            refine q_callVv hE (M' := mX12_needsSign) (as := [_]) dX12_readAlp_60 lk12_257 inX12_needsSign seX12_needsSign myX12_needsSign (by decide) ⟨by decide, by decide⟩ rfl (kR15 hS127.1 ta0) (Nat.le_of_ble_eq_true rfl) rfl rfl (by decide) (by decide) (k_X12_needsSign hS127.1 ta0) ?_
            rintro cn' K' N' I206 R207 L208 ⟨rfl, rfl, rfl, rfl, g209, p211, p212, p213, p214, -⟩
            have hS215 := hS127.tr g209 (by decide +kernel) (by decide +kernel)
            obtain ⟨v216, c217⟩ : ∃ v, I206 a0 9 = v := ⟨_, rfl⟩
            have b218 := iv15_9 hS215.1 ta0 c217
            have p219 := p211
            rw [c129] at p219
            rw [c217] at p219
            obtain ⟨v220, c221⟩ : ∃ v, I206 a0 8 = v := ⟨_, rfl⟩
            have b222 := iv15_8 hS215.1 ta0 c221
            have p223 := p212
            rw [c221] at p223
            rw [c131] at p223
            have p224 := p213
            rw [c217] at p224
            rw [c221] at p224
            rw [c131] at p224
            obtain ⟨v225, c226⟩ : ∃ v, I206 a0 13 = v := ⟨_, rfl⟩
            have p227 := p214
            rw [c129] at p227
            rw [c133] at p227
            rw [c217] at p227
            rw [c226] at p227
            refine tr_aload_n dX12_readAlp_63 hl121 ?_
            refine tr_getR dX12_readAlp_64 fl12_188 (kR15 hS215.1 ta0) d2 ?_
            obtain ⟨a228, d229, ta228⟩ := rf14_10 hW0 ta1
            refine tr_getR dX12_readAlp_67 fl12_260 (kR14 hS215.1 ta1) d229 ?_
            refine tr_iload_n dX12_readAlp_70 hl124 ?_
            refine tr_aload_n dX12_readAlp_71 hl121 ?_
            refine q_iconst dX12_readAlp_72 (by decide) ?_
            intro v230 h231
            refine q_bipush dX12_readAlp_73 (by decide +kernel) ?_
            intro v232 h233
            refine q_callVi hE (M' := mX12_readWhole) (as := [_, _]) dX12_readAlp_75 lk12_161 inX12_readWhole seX12_readWhole myX12_readWhole (by decide) ⟨by decide, by decide⟩ rfl (kR15 hS215.1 ta0) (Nat.le_of_ble_eq_true rfl) rfl rfl (by decide) (by decide) (k_X12_readWhole hS215.1 ta0) ?_
            rintro v238 cn' K' N' I234 R235 L236 ⟨rfl, rfl, rfl, rfl, g237, p239, p240, p241, p242, p243, -⟩
            have hS244 := hS215.tr g237 (by decide +kernel) (by decide +kernel)
            obtain ⟨v245, c246⟩ : ∃ v, I234 a0 9 = v := ⟨_, rfl⟩
            have b247 := iv15_9 hS244.1 ta0 c246
            have p248 := p239
            rw [c217] at p248
            rw [c246] at p248
            obtain ⟨v249, c250⟩ : ∃ v, I234 a0 8 = v := ⟨_, rfl⟩
            have b251 := iv15_8 hS244.1 ta0 c250
            have p252 := p240
            rw [c250] at p252
            rw [c221] at p252
            have p253 := p241
            rw [c246] at p253
            rw [c250] at p253
            rw [c221] at p253
            obtain ⟨v254, c255⟩ : ∃ v, I234 a0 13 = v := ⟨_, rfl⟩
            have p256 := p242
            rw [c217] at p256
            rw [c226] at p256
            rw [c246] at p256
            rw [c255] at p256
            have p257 := p243
            refine q_iast dX12_readAlp_78 (kR53 hS244.1 ta228) (ti_in (nR53 hS244.1 ta228) (by omega) (by omega)) hS244 ta228 (iokF rfl) rfl (by rfl) ?_
            intro I258 hS259 e261 f260
            have c262 : I258 a0 9 = v245 := (f260 _ _ (fun q => by have z := ta0; rw [q.1, ta228] at z; exact absurd z (by decide))).trans c246
            have c263 : I258 a0 8 = v249 := (f260 _ _ (fun q => by have z := ta0; rw [q.1, ta228] at z; exact absurd z (by decide))).trans c250
            have c264 : I258 a0 13 = v254 := (f260 _ _ (fun q => by have z := ta0; rw [q.1, ta228] at z; exact absurd z (by decide))).trans c255
            refine q_iincE dX12_readAlp_79 hl124 (by decide) (by decide) (by intros; omega) ?_
            intro v265 h266
            refine tr_goto 48 dX12_readAlp_82 (by decide) ?_
            exact ih139 _ v265 I258 L236 v245 v249 v254 hl121 hl122 hl123 rfl hS259 c262 c263 c264 (by omega) (by omega) (by omega) (by omega) (by omega) (by omega)
    exact lp139 _ _ v118 I95 L97 v106 v110 v115 rfl rfl rfl rfl hS104 c107 c111 c116 (by omega) (by omega) (by omega) (by omega) (by omega) (Nat.lt_succ_self _)
  · skip
    refine tr_aload_n dX12_readAlp_10 rfl ?_
    refine q_iconst dX12_readAlp_11 (by decide) ?_
    intro v267 h268
    refine q_callVv hE (M' := mX12_flaw) (as := [_]) dX12_readAlp_12 lk12_145 inX12_flaw seX12_flaw myX12_flaw (by decide) ⟨by decide, by decide⟩ rfl (kR15 hS0.1 ta0) (Nat.le_of_ble_eq_true rfl) rfl rfl (by decide) (by decide) (k_X12_flaw hS0.1 ta0 (by omega)) ?_
    rintro cn' K' N' I269 R270 L271 ⟨rfl, rfl, rfl, rfl, rfl, g272, p274, p275, -⟩
    have hS276 := hS0.tr g272 (by decide +kernel) (by decide +kernel)
    have c277 : I269 a0 8 = v6 := (g272.cell ta0 (by decide +kernel)).trans c7
    have c278 : I269 a1 0 = v11 := (g272.cell ta1 (by decide +kernel)).trans c12
    obtain ⟨v279, c280⟩ : ∃ v, I269 a0 9 = v := ⟨_, rfl⟩
    have b281 := iv15_9 hS276.1 ta0 c280
    have p282 := p274
    rw [c280] at p282
    obtain ⟨v283, c284⟩ : ∃ v, I269 a0 13 = v := ⟨_, rfl⟩
    have p285 := p275
    rw [c4] at p285
    rw [c10] at p285
    rw [c284] at p285
    refine tr_aload_n dX12_readAlp_15 rfl ?_
    refine q_callVv hE (M' := mX12_goesOn) (as := []) dX12_readAlp_16 lk12_142 inX12_goesOn seX12_goesOn myX12_goesOn (by decide) ⟨by decide, by decide⟩ rfl (kR15 hS276.1 ta0) (Nat.le_of_ble_eq_true rfl) rfl rfl (by decide) (by decide) (k_X12_goesOn hS276.1 ta0) ?_
    rintro cn' K' N' I286 R287 L288 ⟨rfl, rfl, rfl, rfl, g289, p291, p292, p293, p294, -⟩
    have hS295 := hS276.tr g289 (by decide +kernel) (by decide +kernel)
    have c296 : I286 a1 0 = v11 := (g289.cell ta1 (by decide +kernel)).trans c278
    have c297 : I286 a0 13 = v283 := (g289.cell ta0 (by decide +kernel)).trans c284
    obtain ⟨v298, c299⟩ : ∃ v, I286 a0 9 = v := ⟨_, rfl⟩
    have b300 := iv15_9 hS295.1 ta0 c299
    obtain ⟨v301, c302⟩ : ∃ v, I286 a0 8 = v := ⟨_, rfl⟩
    have b303 := iv15_8 hS295.1 ta0 c302
    have p304 := p291
    rw [c280] at p304
    rw [c299] at p304
    rw [c302] at p304
    rw [c277] at p304
    have p305 := p292
    rw [c280] at p305
    rw [c299] at p305
    have p306 := p293
    rw [c302] at p306
    rw [c277] at p306
    have p307 := p294
    rw [c280] at p307
    rw [c299] at p307
    rw [c302] at p307
    rw [c277] at p307
    refine tr_aload_n dX12_readAlp_19 rfl ?_
    refine tr_ldcS dX12_readAlp_20 ld12_248 ?_
    refine q_bipush dX12_readAlp_22 (by decide +kernel) ?_
    intro v308 h309
    refine q_sipush dX12_readAlp_24 (by decide +kernel) ?_
    intro v310 h311
    refine q_callVi hE (M' := mX12_readPart) (as := [_, _, _]) dX12_readAlp_27 lk12_249 inX12_readPart seX12_readPart myX12_readPart (by decide) ⟨by decide, by decide⟩ rfl (kR15 hS295.1 ta0) (Nat.le_of_ble_eq_true rfl) rfl rfl (by decide) (by decide) (k_X12_readPart hS295.1 ta0 (by decide)) ?_
    rintro v316 cn' K' N' I312 R313 L314 ⟨rfl, rfl, rfl, rfl, g315, p317, p318, p319, p320, p321, -⟩
    have hS322 := hS295.tr g315 (by decide +kernel) (by decide +kernel)
    have c323 : I312 a1 0 = v11 := (g315.cell ta1 (by decide +kernel)).trans c296
    obtain ⟨v324, c325⟩ : ∃ v, I312 a0 9 = v := ⟨_, rfl⟩
    have b326 := iv15_9 hS322.1 ta0 c325
    have p327 := p317
    rw [c299] at p327
    rw [c325] at p327
    obtain ⟨v328, c329⟩ : ∃ v, I312 a0 8 = v := ⟨_, rfl⟩
    have b330 := iv15_8 hS322.1 ta0 c329
    have p331 := p318
    rw [c329] at p331
    rw [c302] at p331
    have p332 := p319
    rw [c325] at p332
    rw [c329] at p332
    rw [c302] at p332
    obtain ⟨v333, c334⟩ : ∃ v, I312 a0 13 = v := ⟨_, rfl⟩
    have p335 := p320
    rw [c299] at p335
    rw [c297] at p335
    rw [c325] at p335
    rw [c334] at p335
    have p336 := p321
    refine tr_istore_n dX12_readAlp_30 (by decide) (by decide) ?_
    refine tr_aload_n dX12_readAlp_31 rfl ?_
    refine tr_ldcS dX12_readAlp_32 ld12_253 ?_
    refine q_iconst dX12_readAlp_34 (by decide) ?_
    intro v337 h338
    refine q_iconst dX12_readAlp_35 (by decide) ?_
    intro v339 h340
    refine q_callVi hE (M' := mX12_readPart) (as := [_, _, _]) dX12_readAlp_36 lk12_249 inX12_readPart seX12_readPart myX12_readPart (by decide) ⟨by decide, by decide⟩ rfl (kR15 hS322.1 ta0) (Nat.le_of_ble_eq_true rfl) rfl rfl (by decide) (by decide) (k_X12_readPart hS322.1 ta0 (by decide)) ?_
    rintro v345 cn' K' N' I341 R342 L343 ⟨rfl, rfl, rfl, rfl, g344, p346, p347, p348, p349, p350, -⟩
    have hS351 := hS322.tr g344 (by decide +kernel) (by decide +kernel)
    have c352 : I341 a1 0 = v11 := (g344.cell ta1 (by decide +kernel)).trans c323
    obtain ⟨v353, c354⟩ : ∃ v, I341 a0 9 = v := ⟨_, rfl⟩
    have b355 := iv15_9 hS351.1 ta0 c354
    have p356 := p346
    rw [c325] at p356
    rw [c354] at p356
    obtain ⟨v357, c358⟩ : ∃ v, I341 a0 8 = v := ⟨_, rfl⟩
    have b359 := iv15_8 hS351.1 ta0 c358
    have p360 := p347
    rw [c358] at p360
    rw [c329] at p360
    have p361 := p348
    rw [c354] at p361
    rw [c358] at p361
    rw [c329] at p361
    obtain ⟨v362, c363⟩ : ∃ v, I341 a0 13 = v := ⟨_, rfl⟩
    have p364 := p349
    rw [c325] at p364
    rw [c334] at p364
    rw [c354] at p364
    rw [c363] at p364
    have p365 := p350
    refine tr_istore_n dX12_readAlp_39 (by decide) (by decide) ?_
    refine tr_aload_n dX12_readAlp_40 rfl ?_
    refine tr_ldcS dX12_readAlp_41 ld12_255 ?_
    refine q_callVv hE (M' := mX12_needs) (as := [_]) dX12_readAlp_43 lk12_157 inX12_needs seX12_needs myX12_needs (by decide) ⟨by decide, by decide⟩ rfl (kR15 hS351.1 ta0) (Nat.le_of_ble_eq_true rfl) rfl rfl (by decide) (by decide) (k_X12_needs hS351.1 ta0 (by decide)) ?_
    rintro cn' K' N' I366 R367 L368 ⟨rfl, rfl, rfl, rfl, g369, p371, p372, p373, p374, -⟩
    have hS375 := hS351.tr g369 (by decide +kernel) (by decide +kernel)
    have c376 : I366 a1 0 = v11 := (g369.cell ta1 (by decide +kernel)).trans c352
    obtain ⟨v377, c378⟩ : ∃ v, I366 a0 9 = v := ⟨_, rfl⟩
    have b379 := iv15_9 hS375.1 ta0 c378
    have p380 := p371
    rw [c354] at p380
    rw [c378] at p380
    obtain ⟨v381, c382⟩ : ∃ v, I366 a0 8 = v := ⟨_, rfl⟩
    have b383 := iv15_8 hS375.1 ta0 c382
    have p384 := p372
    rw [c382] at p384
    rw [c358] at p384
    have p385 := p373
    rw [c378] at p385
    rw [c382] at p385
    rw [c358] at p385
    obtain ⟨v386, c387⟩ : ∃ v, I366 a0 13 = v := ⟨_, rfl⟩
    have p388 := p374
    rw [c354] at p388
    rw [c363] at p388
    rw [c378] at p388
    rw [c387] at p388
    refine q_iconst dX12_readAlp_46 (by decide) ?_
    intro v389 h390
    refine tr_istore_n dX12_readAlp_47 (by decide) (by decide) ?_
    have lp410 : ∀ (fu : Nat) (ls : Nat → Option Value) (v391 : Int32) (I396 : cz_I) (L397 : cz_L) (v399 : Int32) (v401 : Int32) (v403 : Int32), ls 0 = some (.ref a0) → ls 1 = some (.int v316) → ls 2 = some (.int v345) → ls 3 = some (.int v391) → St T cn K N d wi_X12_readAlp wr_X12_readAlp I0 R0 I396 R0 → I396 a0 9 = v399 → I396 a0 8 = v401 → I396 a0 13 = v403 → (v3.toInt = 5 → v399.toInt = 5) → v401.toInt ≥ v6.toInt → ((2 ≤ v399.toInt ∧ v399.toInt ≤ 4) → v401.toInt ≥ v6.toInt + 1) → ((v3.toInt = 5 → v9.toInt ≥ 1) → (v399.toInt = 5 → v403.toInt ≥ 1)) → 0 ≤ v391.toInt → (-v391.toInt + 2147483647).toNat < fu → Tr X mX12_readAlp 48 ls [] cn K N I396 R0 L397 0 0 := by
      intro fu
      induction fu with
      | zero => intros; rename_i hz; exact absurd hz (Nat.not_lt_zero _)
      | succ fu ih410 =>
        intro ls v391 I396 L397 v399 v401 v403 hl392 hl393 hl394 hl395 hS398 c400 c402 c404 g405 g406 g407 g408 g409 hm410
        have b412 := iv15_9 hS398.1 ta0 c400
        have b413 := iv15_8 hS398.1 ta0 c402
        refine tr_iload_n dX12_readAlp_48 hl395 ?_
        refine q_iconst dX12_readAlp_49 (by decide) ?_
        intro v414 h415
        refine q_icmp_ge 85 dX12_readAlp_50 (by decide) (fun h416 => ?_) (fun h416 => ?_)
        · skip
          refine tr_aload_n dX12_readAlp_85 hl392 ?_
          refine q_getI dX12_readAlp_86 fl12_99 (kR15 hS398.1 ta0) c400 ?_
          refine q_iconst dX12_readAlp_89 (by decide) ?_
          intro v417 h418
          refine q_icmp_ne 94 dX12_readAlp_90 (by decide) (fun h419 => ?_) (fun h419 => ?_)
          · skip
            refine tr_aload_n dX12_readAlp_94 hl392 ?_
            refine tr_getR dX12_readAlp_95 fl12_188 (kR15 hS398.1 ta0) d2 ?_
            refine tr_iload_n dX12_readAlp_98 hl393 ?_
            refine q_putX dX12_readAlp_99 fl12_192 (kR14 hS398.1 ta1) (Or.inl rfl) hS398 ta1 (by decide +kernel) (hS398.1.putM ta1 (by omega)) ?_
            intro I420 hS421 e422 f423
            have c424 : I420 a0 9 = v399 := (f423 _ _ (fun q => absurd q.2 (by decide))).trans c400
            have c425 : I420 a0 8 = v401 := (f423 _ _ (fun q => absurd q.2 (by decide))).trans c402
            have c426 : I420 a0 13 = v403 := (f423 _ _ (fun q => absurd q.2 (by decide))).trans c404
            refine tr_aload_n dX12_readAlp_102 hl392 ?_
            refine tr_getR dX12_readAlp_103 fl12_188 (kR15 hS421.1 ta0) d2 ?_
            refine tr_iload_n dX12_readAlp_106 hl394 ?_
            refine q_putI dX12_readAlp_107 fl12_263 (kR14 hS421.1 ta1) (Or.inl rfl) hS421 ta1 (by show (0 : Int) ≤ v345.toInt ∧ v345.toInt ≤ (4 : Int); omega) rfl (by decide +kernel) ?_
            intro I427 hS428 e429 f430
            have c431 : I427 a0 9 = v399 := (f430 _ _ (fun q => absurd q.2 (by decide))).trans c424
            have c432 : I427 a0 8 = v401 := (f430 _ _ (fun q => absurd q.2 (by decide))).trans c425
            have c433 : I427 a0 13 = v403 := (f430 _ _ (fun q => absurd q.2 (by decide))).trans c426
            have c434 : I427 a1 0 = v316 := (f430 _ _ (fun q => absurd q.2 (by decide))).trans e422
            exact tr_vret hZ dX12_readAlp_110 rfl (by decide) (by decide) ⟨rfl, rfl, rfl, rfl, rfl, hS428, (by (try rw [c4]); (try rw [c431]); (try omega)), (by (try rw [c432]); (try rw [c7]); (try omega)), (by (try rw [c431]); (try rw [c432]); (try rw [c7]); (try omega)), (by (try rw [c4]); (try rw [c10]); (try rw [c431]); (try rw [c433]); (try omega)), trivial⟩
          · skip
            exact tr_vret hZ dX12_readAlp_93 rfl (by decide) (by decide) ⟨rfl, rfl, rfl, rfl, rfl, hS398, (by (try rw [c4]); (try rw [c400]); (try omega)), (by (try rw [c402]); (try rw [c7]); (try omega)), (by (try rw [c400]); (try rw [c402]); (try rw [c7]); (try omega)), (by (try rw [c4]); (try rw [c10]); (try rw [c400]); (try rw [c404]); (try omega)), trivial⟩
        · skip
          refine tr_iload_n dX12_readAlp_53 hl395 ?_
          refine q_if_le 63 dX12_readAlp_54 (by decide) (fun h435 => ?_) (fun h435 => ?_)
          · skip
            refine tr_aload_n dX12_readAlp_63 hl392 ?_
            refine tr_getR dX12_readAlp_64 fl12_188 (kR15 hS398.1 ta0) d2 ?_
            obtain ⟨a436, d437, ta436⟩ := rf14_10 hW0 ta1
            refine tr_getR dX12_readAlp_67 fl12_260 (kR14 hS398.1 ta1) d437 ?_
            refine tr_iload_n dX12_readAlp_70 hl395 ?_
            refine tr_aload_n dX12_readAlp_71 hl392 ?_
            refine q_iconst dX12_readAlp_72 (by decide) ?_
            intro v438 h439
            refine q_bipush dX12_readAlp_73 (by decide +kernel) ?_
            intro v440 h441
            refine q_callVi hE (M' := mX12_readWhole) (as := [_, _]) dX12_readAlp_75 lk12_161 inX12_readWhole seX12_readWhole myX12_readWhole (by decide) ⟨by decide, by decide⟩ rfl (kR15 hS398.1 ta0) (Nat.le_of_ble_eq_true rfl) rfl rfl (by decide) (by decide) (k_X12_readWhole hS398.1 ta0) ?_
            rintro v446 cn' K' N' I442 R443 L444 ⟨rfl, rfl, rfl, rfl, g445, p447, p448, p449, p450, p451, -⟩
            have hS452 := hS398.tr g445 (by decide +kernel) (by decide +kernel)
            obtain ⟨v453, c454⟩ : ∃ v, I442 a0 9 = v := ⟨_, rfl⟩
            have b455 := iv15_9 hS452.1 ta0 c454
            have p456 := p447
            rw [c400] at p456
            rw [c454] at p456
            obtain ⟨v457, c458⟩ : ∃ v, I442 a0 8 = v := ⟨_, rfl⟩
            have b459 := iv15_8 hS452.1 ta0 c458
            have p460 := p448
            rw [c458] at p460
            rw [c402] at p460
            have p461 := p449
            rw [c454] at p461
            rw [c458] at p461
            rw [c402] at p461
            obtain ⟨v462, c463⟩ : ∃ v, I442 a0 13 = v := ⟨_, rfl⟩
            have p464 := p450
            rw [c400] at p464
            rw [c404] at p464
            rw [c454] at p464
            rw [c463] at p464
            have p465 := p451
            refine q_iast dX12_readAlp_78 (kR53 hS452.1 ta436) (ti_in (nR53 hS452.1 ta436) (by omega) (by omega)) hS452 ta436 (iokF rfl) rfl (by rfl) ?_
            intro I466 hS467 e469 f468
            have c470 : I466 a0 9 = v453 := (f468 _ _ (fun q => by have z := ta0; rw [q.1, ta436] at z; exact absurd z (by decide))).trans c454
            have c471 : I466 a0 8 = v457 := (f468 _ _ (fun q => by have z := ta0; rw [q.1, ta436] at z; exact absurd z (by decide))).trans c458
            have c472 : I466 a0 13 = v462 := (f468 _ _ (fun q => by have z := ta0; rw [q.1, ta436] at z; exact absurd z (by decide))).trans c463
            refine q_iincE dX12_readAlp_79 hl395 (by decide) (by decide) (by intros; omega) ?_
            intro v473 h474
            refine tr_goto 48 dX12_readAlp_82 (by decide) ?_
            exact ih410 _ v473 I466 L444 v453 v457 v462 hl392 hl393 hl394 rfl hS467 c470 c471 c472 (by omega) (by omega) (by omega) (by omega) (by omega) (by omega)
          · skip
            refine tr_aload_n dX12_readAlp_57 hl392 ?_
            refine q_bipush dX12_readAlp_58 (by decide +kernel) ?_
            intro v475 h476
            refine q_callVv hE (M' := mX12_needsSign) (as := [_]) dX12_readAlp_60 lk12_257 inX12_needsSign seX12_needsSign myX12_needsSign (by decide) ⟨by decide, by decide⟩ rfl (kR15 hS398.1 ta0) (Nat.le_of_ble_eq_true rfl) rfl rfl (by decide) (by decide) (k_X12_needsSign hS398.1 ta0) ?_
            rintro cn' K' N' I477 R478 L479 ⟨rfl, rfl, rfl, rfl, g480, p482, p483, p484, p485, -⟩
            have hS486 := hS398.tr g480 (by decide +kernel) (by decide +kernel)
            obtain ⟨v487, c488⟩ : ∃ v, I477 a0 9 = v := ⟨_, rfl⟩
            have b489 := iv15_9 hS486.1 ta0 c488
            have p490 := p482
            rw [c400] at p490
            rw [c488] at p490
            obtain ⟨v491, c492⟩ : ∃ v, I477 a0 8 = v := ⟨_, rfl⟩
            have b493 := iv15_8 hS486.1 ta0 c492
            have p494 := p483
            rw [c492] at p494
            rw [c402] at p494
            have p495 := p484
            rw [c488] at p495
            rw [c492] at p495
            rw [c402] at p495
            obtain ⟨v496, c497⟩ : ∃ v, I477 a0 13 = v := ⟨_, rfl⟩
            have p498 := p485
            rw [c400] at p498
            rw [c404] at p498
            rw [c488] at p498
            rw [c497] at p498
            refine tr_aload_n dX12_readAlp_63 hl392 ?_
            refine tr_getR dX12_readAlp_64 fl12_188 (kR15 hS486.1 ta0) d2 ?_
            obtain ⟨a499, d500, ta499⟩ := rf14_10 hW0 ta1
            refine tr_getR dX12_readAlp_67 fl12_260 (kR14 hS486.1 ta1) d500 ?_
            refine tr_iload_n dX12_readAlp_70 hl395 ?_
            refine tr_aload_n dX12_readAlp_71 hl392 ?_
            refine q_iconst dX12_readAlp_72 (by decide) ?_
            intro v501 h502
            refine q_bipush dX12_readAlp_73 (by decide +kernel) ?_
            intro v503 h504
            refine q_callVi hE (M' := mX12_readWhole) (as := [_, _]) dX12_readAlp_75 lk12_161 inX12_readWhole seX12_readWhole myX12_readWhole (by decide) ⟨by decide, by decide⟩ rfl (kR15 hS486.1 ta0) (Nat.le_of_ble_eq_true rfl) rfl rfl (by decide) (by decide) (k_X12_readWhole hS486.1 ta0) ?_
            rintro v509 cn' K' N' I505 R506 L507 ⟨rfl, rfl, rfl, rfl, g508, p510, p511, p512, p513, p514, -⟩
            have hS515 := hS486.tr g508 (by decide +kernel) (by decide +kernel)
            obtain ⟨v516, c517⟩ : ∃ v, I505 a0 9 = v := ⟨_, rfl⟩
            have b518 := iv15_9 hS515.1 ta0 c517
            have p519 := p510
            rw [c488] at p519
            rw [c517] at p519
            obtain ⟨v520, c521⟩ : ∃ v, I505 a0 8 = v := ⟨_, rfl⟩
            have b522 := iv15_8 hS515.1 ta0 c521
            have p523 := p511
            rw [c521] at p523
            rw [c492] at p523
            have p524 := p512
            rw [c517] at p524
            rw [c521] at p524
            rw [c492] at p524
            obtain ⟨v525, c526⟩ : ∃ v, I505 a0 13 = v := ⟨_, rfl⟩
            have p527 := p513
            rw [c488] at p527
            rw [c497] at p527
            rw [c517] at p527
            rw [c526] at p527
            have p528 := p514
            refine q_iast dX12_readAlp_78 (kR53 hS515.1 ta499) (ti_in (nR53 hS515.1 ta499) (by omega) (by omega)) hS515 ta499 (iokF rfl) rfl (by rfl) ?_
            intro I529 hS530 e532 f531
            have c533 : I529 a0 9 = v516 := (f531 _ _ (fun q => by have z := ta0; rw [q.1, ta499] at z; exact absurd z (by decide))).trans c517
            have c534 : I529 a0 8 = v520 := (f531 _ _ (fun q => by have z := ta0; rw [q.1, ta499] at z; exact absurd z (by decide))).trans c521
            have c535 : I529 a0 13 = v525 := (f531 _ _ (fun q => by have z := ta0; rw [q.1, ta499] at z; exact absurd z (by decide))).trans c526
            refine q_iincE dX12_readAlp_79 hl395 (by decide) (by decide) (by intros; omega) ?_
            intro v536 h537
            refine tr_goto 48 dX12_readAlp_82 (by decide) ?_
            exact ih410 _ v536 I529 L507 v516 v520 v525 hl392 hl393 hl394 rfl hS530 c533 c534 c535 (by omega) (by omega) (by omega) (by omega) (by omega) (by omega)
    exact lp410 _ _ v389 I366 L368 v377 v381 v386 rfl rfl rfl rfl hS375 c378 c382 c387 (by omega) (by omega) (by omega) (by omega) (by omega) (Nat.lt_succ_self _)
def wi_X12_readLine : List Nat := [896, 897, 898, 899, 900, 901, 902, 903, 904, 905, 959, 968, 969, 970, 971, 972, 973, 974, 3455, 3519, 3583, 3647, 3711, 3775, 3903, 4031, 4095, 4159, 4223, 4287, 4351, 4415, 4479, 4543, 4607, 4671, 4799, 4863]
def wr_X12_readLine : List Nat := []
set_option maxHeartbeats 4000000 in
theorem k_X12_readLine {l : Launch} {T : Nat → Nat} {cn : Nat} {K N : Nat → Nat} {I0 : cz_I} {R0 : cz_R} {L0 : cz_L} (hW0 : Wf T cn K N I0 R0 0) {a0 : Nat} (ta0 : T a0 = 15) (nn4 : ∃ b, R0 a0 4 = some b) : ConE l mX12_readLine [.ref a0] cn K N I0 R0 L0 (ca_v (fun cn' K' N' I' R' L' => cn = cn' ∧ K = K' ∧ N = N' ∧ R0 = R' ∧ St T cn K N 0 wi_X12_readLine wr_X12_readLine I0 R0 I' R0 ∧ (((I0 a0 9).toInt = 5 → (I' a0 9).toInt = 5)) ∧ ((I' a0 8).toInt ≥ (I0 a0 8).toInt) ∧ (((2 ≤ (I' a0 9).toInt ∧ (I' a0 9).toInt ≤ 4) → (I' a0 8).toInt ≥ (I0 a0 8).toInt + 1)) ∧ ((((I0 a0 9).toInt = 5 → (I0 a0 13).toInt ≥ 1) → ((I' a0 9).toInt = 5 → (I' a0 13).toInt ≥ 1))) ∧ True)) := by
  refine ConE.of (by decide +kernel) rfl (Nat.le_of_ble_eq_true rfl) rfl (fun X hX hZ hE => ?_)
  subst hX
  have hS0 : St T cn K N 0 wi_X12_readLine wr_X12_readLine I0 R0 I0 R0 := St.rf0 hW0
  obtain ⟨a1, d2⟩ := nn4
  have ta1 : T a1 = 14 := hW0.rsN ta0 rfl d2
  obtain ⟨v3, c4⟩ : ∃ v, I0 a0 9 = v := ⟨_, rfl⟩
  have b5 := iv15_9 hS0.1 ta0 c4
  obtain ⟨v6, c7⟩ : ∃ v, I0 a0 8 = v := ⟨_, rfl⟩
  have b8 := iv15_8 hS0.1 ta0 c7
  obtain ⟨v9, c10⟩ : ∃ v, I0 a0 13 = v := ⟨_, rfl⟩
  refine tr_aload_n dX12_readLine_0 rfl ?_
  refine tr_ldcS dX12_readLine_1 ld12_164 ?_
  refine q_callVi hE (M' := mX12_isWord) (as := [_]) dX12_readLine_3 lk12_138 inX12_isWord seX12_isWord myX12_isWord (by decide) ⟨by decide, by decide⟩ rfl (kR15 hS0.1 ta0) (Nat.le_of_ble_eq_true rfl) rfl rfl (by decide) (by decide) (k_X12_isWord hS0.1 ta0 (by decide)) ?_
  rintro v15 cn' K' N' I11 R12 L13 ⟨rfl, rfl, rfl, rfl, rfl, rfl, h16, p17, -⟩
  have p18 := p17
  rw [c4] at p18
  refine q_if_eq 16 dX12_readLine_6 (by decide) (fun h19 => ?_) (fun h19 => ?_)
  · skip
    refine tr_aload_n dX12_readLine_16 rfl ?_
    refine tr_ldcS dX12_readLine_17 ld12_166 ?_
    refine q_callVi hE (M' := mX12_isWord) (as := [_]) dX12_readLine_19 lk12_138 inX12_isWord seX12_isWord myX12_isWord (by decide) ⟨by decide, by decide⟩ rfl (kR15 hS0.1 ta0) (Nat.le_of_ble_eq_true rfl) rfl rfl (by decide) (by decide) (k_X12_isWord hS0.1 ta0 (by decide)) ?_
    rintro v24 cn' K' N' I20 R21 L22 ⟨rfl, rfl, rfl, rfl, rfl, rfl, h25, p26, -⟩
    have p27 := p26
    rw [c4] at p27
    refine q_if_eq 33 dX12_readLine_22 (by decide) (fun h28 => ?_) (fun h28 => ?_)
    · skip
      refine tr_aload_n dX12_readLine_33 rfl ?_
      refine tr_ldcS dX12_readLine_34 ld12_168 ?_
      refine q_callVi hE (M' := mX12_isWord) (as := [_]) dX12_readLine_36 lk12_138 inX12_isWord seX12_isWord myX12_isWord (by decide) ⟨by decide, by decide⟩ rfl (kR15 hS0.1 ta0) (Nat.le_of_ble_eq_true rfl) rfl rfl (by decide) (by decide) (k_X12_isWord hS0.1 ta0 (by decide)) ?_
      rintro v33 cn' K' N' I29 R30 L31 ⟨rfl, rfl, rfl, rfl, rfl, rfl, h34, p35, -⟩
      have p36 := p35
      rw [c4] at p36
      refine q_if_eq 50 dX12_readLine_39 (by decide) (fun h37 => ?_) (fun h37 => ?_)
      · skip
        refine tr_aload_n dX12_readLine_50 rfl ?_
        refine tr_ldcS dX12_readLine_51 ld12_170 ?_
        refine q_callVi hE (M' := mX12_isWord) (as := [_]) dX12_readLine_53 lk12_138 inX12_isWord seX12_isWord myX12_isWord (by decide) ⟨by decide, by decide⟩ rfl (kR15 hS0.1 ta0) (Nat.le_of_ble_eq_true rfl) rfl rfl (by decide) (by decide) (k_X12_isWord hS0.1 ta0 (by decide)) ?_
        rintro v42 cn' K' N' I38 R39 L40 ⟨rfl, rfl, rfl, rfl, rfl, rfl, h43, p44, -⟩
        have p45 := p44
        rw [c4] at p45
        refine q_if_eq 67 dX12_readLine_56 (by decide) (fun h46 => ?_) (fun h46 => ?_)
        · skip
          refine tr_aload_n dX12_readLine_67 rfl ?_
          refine tr_ldcS dX12_readLine_68 ld12_172 ?_
          refine q_callVi hE (M' := mX12_isWord) (as := [_]) dX12_readLine_70 lk12_138 inX12_isWord seX12_isWord myX12_isWord (by decide) ⟨by decide, by decide⟩ rfl (kR15 hS0.1 ta0) (Nat.le_of_ble_eq_true rfl) rfl rfl (by decide) (by decide) (k_X12_isWord hS0.1 ta0 (by decide)) ?_
          rintro v51 cn' K' N' I47 R48 L49 ⟨rfl, rfl, rfl, rfl, rfl, rfl, h52, p53, -⟩
          have p54 := p53
          rw [c4] at p54
          refine q_if_eq 84 dX12_readLine_73 (by decide) (fun h55 => ?_) (fun h55 => ?_)
          · skip
            refine tr_aload_n dX12_readLine_84 rfl ?_
            refine tr_ldcS dX12_readLine_85 ld12_174 ?_
            refine q_callVi hE (M' := mX12_isWord) (as := [_]) dX12_readLine_87 lk12_138 inX12_isWord seX12_isWord myX12_isWord (by decide) ⟨by decide, by decide⟩ rfl (kR15 hS0.1 ta0) (Nat.le_of_ble_eq_true rfl) rfl rfl (by decide) (by decide) (k_X12_isWord hS0.1 ta0 (by decide)) ?_
            rintro v60 cn' K' N' I56 R57 L58 ⟨rfl, rfl, rfl, rfl, rfl, rfl, h61, p62, -⟩
            have p63 := p62
            rw [c4] at p63
            refine q_if_eq 101 dX12_readLine_90 (by decide) (fun h64 => ?_) (fun h64 => ?_)
            · skip
              refine tr_aload_n dX12_readLine_101 rfl ?_
              refine tr_ldcS dX12_readLine_102 ld12_176 ?_
              refine q_callVi hE (M' := mX12_isWord) (as := [_]) dX12_readLine_104 lk12_138 inX12_isWord seX12_isWord myX12_isWord (by decide) ⟨by decide, by decide⟩ rfl (kR15 hS0.1 ta0) (Nat.le_of_ble_eq_true rfl) rfl rfl (by decide) (by decide) (k_X12_isWord hS0.1 ta0 (by decide)) ?_
              rintro v69 cn' K' N' I65 R66 L67 ⟨rfl, rfl, rfl, rfl, rfl, rfl, h70, p71, -⟩
              have p72 := p71
              rw [c4] at p72
              refine q_if_eq 117 dX12_readLine_107 (by decide) (fun h73 => ?_) (fun h73 => ?_)
              · skip
                refine tr_aload_n dX12_readLine_117 rfl ?_
                refine tr_ldcS dX12_readLine_118 ld12_178 ?_
                refine q_callVi hE (M' := mX12_isWord) (as := [_]) dX12_readLine_120 lk12_138 inX12_isWord seX12_isWord myX12_isWord (by decide) ⟨by decide, by decide⟩ rfl (kR15 hS0.1 ta0) (Nat.le_of_ble_eq_true rfl) rfl rfl (by decide) (by decide) (k_X12_isWord hS0.1 ta0 (by decide)) ?_
                rintro v78 cn' K' N' I74 R75 L76 ⟨rfl, rfl, rfl, rfl, rfl, rfl, h79, p80, -⟩
                have p81 := p80
                rw [c4] at p81
                refine q_if_eq 133 dX12_readLine_123 (by decide) (fun h82 => ?_) (fun h82 => ?_)
                · skip
                  refine tr_aload_n dX12_readLine_133 rfl ?_
                  refine tr_ldcS dX12_readLine_134 ld12_180 ?_
                  refine q_callVi hE (M' := mX12_isWord) (as := [_]) dX12_readLine_136 lk12_138 inX12_isWord seX12_isWord myX12_isWord (by decide) ⟨by decide, by decide⟩ rfl (kR15 hS0.1 ta0) (Nat.le_of_ble_eq_true rfl) rfl rfl (by decide) (by decide) (k_X12_isWord hS0.1 ta0 (by decide)) ?_
                  rintro v87 cn' K' N' I83 R84 L85 ⟨rfl, rfl, rfl, rfl, rfl, rfl, h88, p89, -⟩
                  have p90 := p89
                  rw [c4] at p90
                  refine q_if_eq 149 dX12_readLine_139 (by decide) (fun h91 => ?_) (fun h91 => ?_)
                  · skip
                    refine tr_aload_n dX12_readLine_149 rfl ?_
                    refine tr_ldcS dX12_readLine_150 ld12_182 ?_
                    refine q_callVi hE (M' := mX12_isWord) (as := [_]) dX12_readLine_152 lk12_138 inX12_isWord seX12_isWord myX12_isWord (by decide) ⟨by decide, by decide⟩ rfl (kR15 hS0.1 ta0) (Nat.le_of_ble_eq_true rfl) rfl rfl (by decide) (by decide) (k_X12_isWord hS0.1 ta0 (by decide)) ?_
                    rintro v96 cn' K' N' I92 R93 L94 ⟨rfl, rfl, rfl, rfl, rfl, rfl, h97, p98, -⟩
                    have p99 := p98
                    rw [c4] at p99
                    refine q_if_eq 165 dX12_readLine_155 (by decide) (fun h100 => ?_) (fun h100 => ?_)
                    · skip
                      refine tr_aload_n dX12_readLine_165 rfl ?_
                      refine tr_ldcS dX12_readLine_166 ld12_184 ?_
                      refine q_callVi hE (M' := mX12_isWord) (as := [_]) dX12_readLine_168 lk12_138 inX12_isWord seX12_isWord myX12_isWord (by decide) ⟨by decide, by decide⟩ rfl (kR15 hS0.1 ta0) (Nat.le_of_ble_eq_true rfl) rfl rfl (by decide) (by decide) (k_X12_isWord hS0.1 ta0 (by decide)) ?_
                      rintro v105 cn' K' N' I101 R102 L103 ⟨rfl, rfl, rfl, rfl, rfl, rfl, h106, p107, -⟩
                      have p108 := p107
                      rw [c4] at p108
                      refine q_if_eq 181 dX12_readLine_171 (by decide) (fun h109 => ?_) (fun h109 => ?_)
                      · skip
                        refine tr_aload_n dX12_readLine_181 rfl ?_
                        refine q_iconst dX12_readLine_182 (by decide) ?_
                        intro v110 h111
                        refine q_callVv hE (M' := mX12_flaw) (as := [_]) dX12_readLine_183 lk12_145 inX12_flaw seX12_flaw myX12_flaw (by decide) ⟨by decide, by decide⟩ rfl (kR15 hS0.1 ta0) (Nat.le_of_ble_eq_true rfl) rfl rfl (by decide) (by decide) (k_X12_flaw hS0.1 ta0 (by omega)) ?_
                        rintro cn' K' N' I112 R113 L114 ⟨rfl, rfl, rfl, rfl, rfl, g115, p117, p118, -⟩
                        have hS119 := hS0.tr g115 (by decide +kernel) (by decide +kernel)
                        have c120 : I112 a0 8 = v6 := (g115.cell ta0 (by decide +kernel)).trans c7
                        obtain ⟨v121, c122⟩ : ∃ v, I112 a0 9 = v := ⟨_, rfl⟩
                        have b123 := iv15_9 hS119.1 ta0 c122
                        have p124 := p117
                        rw [c122] at p124
                        obtain ⟨v125, c126⟩ : ∃ v, I112 a0 13 = v := ⟨_, rfl⟩
                        have p127 := p118
                        rw [c4] at p127
                        rw [c10] at p127
                        rw [c126] at p127
                        exact tr_vret hZ dX12_readLine_186 rfl (by decide) (by decide) ⟨rfl, rfl, rfl, rfl, rfl, hS119, (by (try rw [c4]); (try rw [c122]); (try omega)), (by (try rw [c120]); (try rw [c7]); (try omega)), (by (try rw [c122]); (try rw [c120]); (try rw [c7]); (try omega)), (by (try rw [c4]); (try rw [c10]); (try rw [c122]); (try rw [c126]); (try omega)), trivial⟩
                      · skip
                        refine tr_aload_n dX12_readLine_174 rfl ?_
                        refine q_callVv hE (M' := mX12_readSlice) (as := []) dX12_readLine_175 lk12_245 inX12_readSlice seX12_readSlice myX12_readSlice (by decide) ⟨by decide, by decide⟩ rfl (kR15 hS0.1 ta0) (Nat.le_of_ble_eq_true rfl) rfl rfl (by decide) (by decide) (k_X12_readSlice hS0.1 ta0 ⟨_, d2⟩) ?_
                        rintro cn' K' N' I128 R129 L130 ⟨rfl, rfl, rfl, rfl, g131, p133, p134, p135, p136, -⟩
                        have hS137 := hS0.tr g131 (by decide +kernel) (by decide +kernel)
                        obtain ⟨v138, c139⟩ : ∃ v, I128 a0 9 = v := ⟨_, rfl⟩
                        have b140 := iv15_9 hS137.1 ta0 c139
                        have p141 := p133
                        rw [c4] at p141
                        rw [c139] at p141
                        obtain ⟨v142, c143⟩ : ∃ v, I128 a0 8 = v := ⟨_, rfl⟩
                        have b144 := iv15_8 hS137.1 ta0 c143
                        have p145 := p134
                        rw [c143] at p145
                        rw [c7] at p145
                        have p146 := p135
                        rw [c139] at p146
                        rw [c143] at p146
                        rw [c7] at p146
                        obtain ⟨v147, c148⟩ : ∃ v, I128 a0 13 = v := ⟨_, rfl⟩
                        have p149 := p136
                        rw [c4] at p149
                        rw [c10] at p149
                        rw [c139] at p149
                        rw [c148] at p149
                        refine tr_goto 186 dX12_readLine_178 (by decide) ?_
                        exact tr_vret hZ dX12_readLine_186 rfl (by decide) (by decide) ⟨rfl, rfl, rfl, rfl, rfl, hS137, (by (try rw [c4]); (try rw [c139]); (try omega)), (by (try rw [c143]); (try rw [c7]); (try omega)), (by (try rw [c139]); (try rw [c143]); (try rw [c7]); (try omega)), (by (try rw [c4]); (try rw [c10]); (try rw [c139]); (try rw [c148]); (try omega)), trivial⟩
                    · skip
                      refine tr_aload_n dX12_readLine_158 rfl ?_
                      refine q_callVv hE (M' := mX12_readCall) (as := []) dX12_readLine_159 lk12_242 inX12_readCall seX12_readCall myX12_readCall (by decide) ⟨by decide, by decide⟩ rfl (kR15 hS0.1 ta0) (Nat.le_of_ble_eq_true rfl) rfl rfl (by decide) (by decide) (k_X12_readCall hS0.1 ta0 ⟨_, d2⟩) ?_
                      rintro cn' K' N' I150 R151 L152 ⟨rfl, rfl, rfl, rfl, g153, p155, p156, p157, p158, -⟩
                      have hS159 := hS0.tr g153 (by decide +kernel) (by decide +kernel)
                      obtain ⟨v160, c161⟩ : ∃ v, I150 a0 9 = v := ⟨_, rfl⟩
                      have b162 := iv15_9 hS159.1 ta0 c161
                      have p163 := p155
                      rw [c4] at p163
                      rw [c161] at p163
                      obtain ⟨v164, c165⟩ : ∃ v, I150 a0 8 = v := ⟨_, rfl⟩
                      have b166 := iv15_8 hS159.1 ta0 c165
                      have p167 := p156
                      rw [c165] at p167
                      rw [c7] at p167
                      have p168 := p157
                      rw [c161] at p168
                      rw [c165] at p168
                      rw [c7] at p168
                      obtain ⟨v169, c170⟩ : ∃ v, I150 a0 13 = v := ⟨_, rfl⟩
                      have p171 := p158
                      rw [c4] at p171
                      rw [c10] at p171
                      rw [c161] at p171
                      rw [c170] at p171
                      refine tr_goto 186 dX12_readLine_162 (by decide) ?_
                      exact tr_vret hZ dX12_readLine_186 rfl (by decide) (by decide) ⟨rfl, rfl, rfl, rfl, rfl, hS159, (by (try rw [c4]); (try rw [c161]); (try omega)), (by (try rw [c165]); (try rw [c7]); (try omega)), (by (try rw [c161]); (try rw [c165]); (try rw [c7]); (try omega)), (by (try rw [c4]); (try rw [c10]); (try rw [c161]); (try rw [c170]); (try omega)), trivial⟩
                  · skip
                    refine tr_aload_n dX12_readLine_142 rfl ?_
                    refine q_callVv hE (M' := mX12_readTurner) (as := []) dX12_readLine_143 lk12_239 inX12_readTurner seX12_readTurner myX12_readTurner (by decide) ⟨by decide, by decide⟩ rfl (kR15 hS0.1 ta0) (Nat.le_of_ble_eq_true rfl) rfl rfl (by decide) (by decide) (k_X12_readTurner hS0.1 ta0 ⟨_, d2⟩) ?_
                    rintro cn' K' N' I172 R173 L174 ⟨rfl, rfl, rfl, rfl, g175, p177, p178, p179, p180, -⟩
                    have hS181 := hS0.tr g175 (by decide +kernel) (by decide +kernel)
                    obtain ⟨v182, c183⟩ : ∃ v, I172 a0 9 = v := ⟨_, rfl⟩
                    have b184 := iv15_9 hS181.1 ta0 c183
                    have p185 := p177
                    rw [c4] at p185
                    rw [c183] at p185
                    obtain ⟨v186, c187⟩ : ∃ v, I172 a0 8 = v := ⟨_, rfl⟩
                    have b188 := iv15_8 hS181.1 ta0 c187
                    have p189 := p178
                    rw [c187] at p189
                    rw [c7] at p189
                    have p190 := p179
                    rw [c183] at p190
                    rw [c187] at p190
                    rw [c7] at p190
                    obtain ⟨v191, c192⟩ : ∃ v, I172 a0 13 = v := ⟨_, rfl⟩
                    have p193 := p180
                    rw [c4] at p193
                    rw [c10] at p193
                    rw [c183] at p193
                    rw [c192] at p193
                    refine tr_goto 186 dX12_readLine_146 (by decide) ?_
                    exact tr_vret hZ dX12_readLine_186 rfl (by decide) (by decide) ⟨rfl, rfl, rfl, rfl, rfl, hS181, (by (try rw [c4]); (try rw [c183]); (try omega)), (by (try rw [c187]); (try rw [c7]); (try omega)), (by (try rw [c183]); (try rw [c187]); (try rw [c7]); (try omega)), (by (try rw [c4]); (try rw [c10]); (try rw [c183]); (try rw [c192]); (try omega)), trivial⟩
                · skip
                  refine tr_aload_n dX12_readLine_126 rfl ?_
                  refine q_callVv hE (M' := mX12_readAlmanac) (as := []) dX12_readLine_127 lk12_236 inX12_readAlmanac seX12_readAlmanac myX12_readAlmanac (by decide) ⟨by decide, by decide⟩ rfl (kR15 hS0.1 ta0) (Nat.le_of_ble_eq_true rfl) rfl rfl (by decide) (by decide) (k_X12_readAlmanac hS0.1 ta0 ⟨_, d2⟩) ?_
                  rintro cn' K' N' I194 R195 L196 ⟨rfl, rfl, rfl, rfl, g197, p199, p200, p201, p202, -⟩
                  have hS203 := hS0.tr g197 (by decide +kernel) (by decide +kernel)
                  obtain ⟨v204, c205⟩ : ∃ v, I194 a0 9 = v := ⟨_, rfl⟩
                  have b206 := iv15_9 hS203.1 ta0 c205
                  have p207 := p199
                  rw [c4] at p207
                  rw [c205] at p207
                  obtain ⟨v208, c209⟩ : ∃ v, I194 a0 8 = v := ⟨_, rfl⟩
                  have b210 := iv15_8 hS203.1 ta0 c209
                  have p211 := p200
                  rw [c209] at p211
                  rw [c7] at p211
                  have p212 := p201
                  rw [c205] at p212
                  rw [c209] at p212
                  rw [c7] at p212
                  obtain ⟨v213, c214⟩ : ∃ v, I194 a0 13 = v := ⟨_, rfl⟩
                  have p215 := p202
                  rw [c4] at p215
                  rw [c10] at p215
                  rw [c205] at p215
                  rw [c214] at p215
                  refine tr_goto 186 dX12_readLine_130 (by decide) ?_
                  exact tr_vret hZ dX12_readLine_186 rfl (by decide) (by decide) ⟨rfl, rfl, rfl, rfl, rfl, hS203, (by (try rw [c4]); (try rw [c205]); (try omega)), (by (try rw [c209]); (try rw [c7]); (try omega)), (by (try rw [c205]); (try rw [c209]); (try rw [c7]); (try omega)), (by (try rw [c4]); (try rw [c10]); (try rw [c205]); (try rw [c214]); (try omega)), trivial⟩
              · skip
                refine tr_aload_n dX12_readLine_110 rfl ?_
                refine q_callVv hE (M' := mX12_readCheese) (as := []) dX12_readLine_111 lk12_233 inX12_readCheese seX12_readCheese myX12_readCheese (by decide) ⟨by decide, by decide⟩ rfl (kR15 hS0.1 ta0) (Nat.le_of_ble_eq_true rfl) rfl rfl (by decide) (by decide) (k_X12_readCheese hS0.1 ta0 ⟨_, d2⟩) ?_
                rintro cn' K' N' I216 R217 L218 ⟨rfl, rfl, rfl, rfl, g219, p221, p222, p223, p224, -⟩
                have hS225 := hS0.tr g219 (by decide +kernel) (by decide +kernel)
                obtain ⟨v226, c227⟩ : ∃ v, I216 a0 9 = v := ⟨_, rfl⟩
                have b228 := iv15_9 hS225.1 ta0 c227
                have p229 := p221
                rw [c4] at p229
                rw [c227] at p229
                obtain ⟨v230, c231⟩ : ∃ v, I216 a0 8 = v := ⟨_, rfl⟩
                have b232 := iv15_8 hS225.1 ta0 c231
                have p233 := p222
                rw [c231] at p233
                rw [c7] at p233
                have p234 := p223
                rw [c227] at p234
                rw [c231] at p234
                rw [c7] at p234
                obtain ⟨v235, c236⟩ : ∃ v, I216 a0 13 = v := ⟨_, rfl⟩
                have p237 := p224
                rw [c4] at p237
                rw [c10] at p237
                rw [c227] at p237
                rw [c236] at p237
                refine tr_goto 186 dX12_readLine_114 (by decide) ?_
                exact tr_vret hZ dX12_readLine_186 rfl (by decide) (by decide) ⟨rfl, rfl, rfl, rfl, rfl, hS225, (by (try rw [c4]); (try rw [c227]); (try omega)), (by (try rw [c231]); (try rw [c7]); (try omega)), (by (try rw [c227]); (try rw [c231]); (try rw [c7]); (try omega)), (by (try rw [c4]); (try rw [c10]); (try rw [c227]); (try rw [c236]); (try omega)), trivial⟩
            · skip
              refine tr_aload_n dX12_readLine_93 rfl ?_
              refine q_iconst dX12_readLine_94 (by decide) ?_
              intro v238 h239
              refine q_callVv hE (M' := mX12_readEvent) (as := [_]) dX12_readLine_95 lk12_230 inX12_readEvent seX12_readEvent myX12_readEvent (by decide) ⟨by decide, by decide⟩ rfl (kR15 hS0.1 ta0) (Nat.le_of_ble_eq_true rfl) rfl rfl (by decide) (by decide) (k_X12_readEvent hS0.1 ta0 (by omega) ⟨_, d2⟩) ?_
              rintro cn' K' N' I240 R241 L242 ⟨rfl, rfl, rfl, rfl, g243, p245, p246, p247, p248, -⟩
              have hS249 := hS0.tr g243 (by decide +kernel) (by decide +kernel)
              obtain ⟨v250, c251⟩ : ∃ v, I240 a0 9 = v := ⟨_, rfl⟩
              have b252 := iv15_9 hS249.1 ta0 c251
              have p253 := p245
              rw [c4] at p253
              rw [c251] at p253
              obtain ⟨v254, c255⟩ : ∃ v, I240 a0 8 = v := ⟨_, rfl⟩
              have b256 := iv15_8 hS249.1 ta0 c255
              have p257 := p246
              rw [c255] at p257
              rw [c7] at p257
              have p258 := p247
              rw [c251] at p258
              rw [c255] at p258
              rw [c7] at p258
              obtain ⟨v259, c260⟩ : ∃ v, I240 a0 13 = v := ⟨_, rfl⟩
              have p261 := p248
              rw [c4] at p261
              rw [c10] at p261
              rw [c251] at p261
              rw [c260] at p261
              refine tr_goto 186 dX12_readLine_98 (by decide) ?_
              exact tr_vret hZ dX12_readLine_186 rfl (by decide) (by decide) ⟨rfl, rfl, rfl, rfl, rfl, hS249, (by (try rw [c4]); (try rw [c251]); (try omega)), (by (try rw [c255]); (try rw [c7]); (try omega)), (by (try rw [c251]); (try rw [c255]); (try rw [c7]); (try omega)), (by (try rw [c4]); (try rw [c10]); (try rw [c251]); (try rw [c260]); (try omega)), trivial⟩
          · skip
            refine tr_aload_n dX12_readLine_76 rfl ?_
            refine q_iconst dX12_readLine_77 (by decide) ?_
            intro v262 h263
            refine q_callVv hE (M' := mX12_readEvent) (as := [_]) dX12_readLine_78 lk12_230 inX12_readEvent seX12_readEvent myX12_readEvent (by decide) ⟨by decide, by decide⟩ rfl (kR15 hS0.1 ta0) (Nat.le_of_ble_eq_true rfl) rfl rfl (by decide) (by decide) (k_X12_readEvent hS0.1 ta0 (by omega) ⟨_, d2⟩) ?_
            rintro cn' K' N' I264 R265 L266 ⟨rfl, rfl, rfl, rfl, g267, p269, p270, p271, p272, -⟩
            have hS273 := hS0.tr g267 (by decide +kernel) (by decide +kernel)
            obtain ⟨v274, c275⟩ : ∃ v, I264 a0 9 = v := ⟨_, rfl⟩
            have b276 := iv15_9 hS273.1 ta0 c275
            have p277 := p269
            rw [c4] at p277
            rw [c275] at p277
            obtain ⟨v278, c279⟩ : ∃ v, I264 a0 8 = v := ⟨_, rfl⟩
            have b280 := iv15_8 hS273.1 ta0 c279
            have p281 := p270
            rw [c279] at p281
            rw [c7] at p281
            have p282 := p271
            rw [c275] at p282
            rw [c279] at p282
            rw [c7] at p282
            obtain ⟨v283, c284⟩ : ∃ v, I264 a0 13 = v := ⟨_, rfl⟩
            have p285 := p272
            rw [c4] at p285
            rw [c10] at p285
            rw [c275] at p285
            rw [c284] at p285
            refine tr_goto 186 dX12_readLine_81 (by decide) ?_
            exact tr_vret hZ dX12_readLine_186 rfl (by decide) (by decide) ⟨rfl, rfl, rfl, rfl, rfl, hS273, (by (try rw [c4]); (try rw [c275]); (try omega)), (by (try rw [c279]); (try rw [c7]); (try omega)), (by (try rw [c275]); (try rw [c279]); (try rw [c7]); (try omega)), (by (try rw [c4]); (try rw [c10]); (try rw [c275]); (try rw [c284]); (try omega)), trivial⟩
        · skip
          refine tr_aload_n dX12_readLine_59 rfl ?_
          refine q_iconst dX12_readLine_60 (by decide) ?_
          intro v286 h287
          refine q_callVv hE (M' := mX12_readEvent) (as := [_]) dX12_readLine_61 lk12_230 inX12_readEvent seX12_readEvent myX12_readEvent (by decide) ⟨by decide, by decide⟩ rfl (kR15 hS0.1 ta0) (Nat.le_of_ble_eq_true rfl) rfl rfl (by decide) (by decide) (k_X12_readEvent hS0.1 ta0 (by omega) ⟨_, d2⟩) ?_
          rintro cn' K' N' I288 R289 L290 ⟨rfl, rfl, rfl, rfl, g291, p293, p294, p295, p296, -⟩
          have hS297 := hS0.tr g291 (by decide +kernel) (by decide +kernel)
          obtain ⟨v298, c299⟩ : ∃ v, I288 a0 9 = v := ⟨_, rfl⟩
          have b300 := iv15_9 hS297.1 ta0 c299
          have p301 := p293
          rw [c4] at p301
          rw [c299] at p301
          obtain ⟨v302, c303⟩ : ∃ v, I288 a0 8 = v := ⟨_, rfl⟩
          have b304 := iv15_8 hS297.1 ta0 c303
          have p305 := p294
          rw [c303] at p305
          rw [c7] at p305
          have p306 := p295
          rw [c299] at p306
          rw [c303] at p306
          rw [c7] at p306
          obtain ⟨v307, c308⟩ : ∃ v, I288 a0 13 = v := ⟨_, rfl⟩
          have p309 := p296
          rw [c4] at p309
          rw [c10] at p309
          rw [c299] at p309
          rw [c308] at p309
          refine tr_goto 186 dX12_readLine_64 (by decide) ?_
          exact tr_vret hZ dX12_readLine_186 rfl (by decide) (by decide) ⟨rfl, rfl, rfl, rfl, rfl, hS297, (by (try rw [c4]); (try rw [c299]); (try omega)), (by (try rw [c303]); (try rw [c7]); (try omega)), (by (try rw [c299]); (try rw [c303]); (try rw [c7]); (try omega)), (by (try rw [c4]); (try rw [c10]); (try rw [c299]); (try rw [c308]); (try omega)), trivial⟩
      · skip
        refine tr_aload_n dX12_readLine_42 rfl ?_
        refine q_iconst dX12_readLine_43 (by decide) ?_
        intro v310 h311
        refine q_callVv hE (M' := mX12_readEvent) (as := [_]) dX12_readLine_44 lk12_230 inX12_readEvent seX12_readEvent myX12_readEvent (by decide) ⟨by decide, by decide⟩ rfl (kR15 hS0.1 ta0) (Nat.le_of_ble_eq_true rfl) rfl rfl (by decide) (by decide) (k_X12_readEvent hS0.1 ta0 (by omega) ⟨_, d2⟩) ?_
        rintro cn' K' N' I312 R313 L314 ⟨rfl, rfl, rfl, rfl, g315, p317, p318, p319, p320, -⟩
        have hS321 := hS0.tr g315 (by decide +kernel) (by decide +kernel)
        obtain ⟨v322, c323⟩ : ∃ v, I312 a0 9 = v := ⟨_, rfl⟩
        have b324 := iv15_9 hS321.1 ta0 c323
        have p325 := p317
        rw [c4] at p325
        rw [c323] at p325
        obtain ⟨v326, c327⟩ : ∃ v, I312 a0 8 = v := ⟨_, rfl⟩
        have b328 := iv15_8 hS321.1 ta0 c327
        have p329 := p318
        rw [c327] at p329
        rw [c7] at p329
        have p330 := p319
        rw [c323] at p330
        rw [c327] at p330
        rw [c7] at p330
        obtain ⟨v331, c332⟩ : ∃ v, I312 a0 13 = v := ⟨_, rfl⟩
        have p333 := p320
        rw [c4] at p333
        rw [c10] at p333
        rw [c323] at p333
        rw [c332] at p333
        refine tr_goto 186 dX12_readLine_47 (by decide) ?_
        exact tr_vret hZ dX12_readLine_186 rfl (by decide) (by decide) ⟨rfl, rfl, rfl, rfl, rfl, hS321, (by (try rw [c4]); (try rw [c323]); (try omega)), (by (try rw [c327]); (try rw [c7]); (try omega)), (by (try rw [c323]); (try rw [c327]); (try rw [c7]); (try omega)), (by (try rw [c4]); (try rw [c10]); (try rw [c323]); (try rw [c332]); (try omega)), trivial⟩
    · skip
      refine tr_aload_n dX12_readLine_25 rfl ?_
      refine q_iconst dX12_readLine_26 (by decide) ?_
      intro v334 h335
      refine q_callVv hE (M' := mX12_readEvent) (as := [_]) dX12_readLine_27 lk12_230 inX12_readEvent seX12_readEvent myX12_readEvent (by decide) ⟨by decide, by decide⟩ rfl (kR15 hS0.1 ta0) (Nat.le_of_ble_eq_true rfl) rfl rfl (by decide) (by decide) (k_X12_readEvent hS0.1 ta0 (by omega) ⟨_, d2⟩) ?_
      rintro cn' K' N' I336 R337 L338 ⟨rfl, rfl, rfl, rfl, g339, p341, p342, p343, p344, -⟩
      have hS345 := hS0.tr g339 (by decide +kernel) (by decide +kernel)
      obtain ⟨v346, c347⟩ : ∃ v, I336 a0 9 = v := ⟨_, rfl⟩
      have b348 := iv15_9 hS345.1 ta0 c347
      have p349 := p341
      rw [c4] at p349
      rw [c347] at p349
      obtain ⟨v350, c351⟩ : ∃ v, I336 a0 8 = v := ⟨_, rfl⟩
      have b352 := iv15_8 hS345.1 ta0 c351
      have p353 := p342
      rw [c351] at p353
      rw [c7] at p353
      have p354 := p343
      rw [c347] at p354
      rw [c351] at p354
      rw [c7] at p354
      obtain ⟨v355, c356⟩ : ∃ v, I336 a0 13 = v := ⟨_, rfl⟩
      have p357 := p344
      rw [c4] at p357
      rw [c10] at p357
      rw [c347] at p357
      rw [c356] at p357
      refine tr_goto 186 dX12_readLine_30 (by decide) ?_
      exact tr_vret hZ dX12_readLine_186 rfl (by decide) (by decide) ⟨rfl, rfl, rfl, rfl, rfl, hS345, (by (try rw [c4]); (try rw [c347]); (try omega)), (by (try rw [c351]); (try rw [c7]); (try omega)), (by (try rw [c347]); (try rw [c351]); (try rw [c7]); (try omega)), (by (try rw [c4]); (try rw [c10]); (try rw [c347]); (try rw [c356]); (try omega)), trivial⟩
  · skip
    refine tr_aload_n dX12_readLine_9 rfl ?_
    refine q_callVv hE (M' := mX12_readAlp) (as := []) dX12_readLine_10 lk12_227 inX12_readAlp seX12_readAlp myX12_readAlp (by decide) ⟨by decide, by decide⟩ rfl (kR15 hS0.1 ta0) (Nat.le_of_ble_eq_true rfl) rfl rfl (by decide) (by decide) (k_X12_readAlp hS0.1 ta0 ⟨_, d2⟩) ?_
    rintro cn' K' N' I358 R359 L360 ⟨rfl, rfl, rfl, rfl, g361, p363, p364, p365, p366, -⟩
    have hS367 := hS0.tr g361 (by decide +kernel) (by decide +kernel)
    obtain ⟨v368, c369⟩ : ∃ v, I358 a0 9 = v := ⟨_, rfl⟩
    have b370 := iv15_9 hS367.1 ta0 c369
    have p371 := p363
    rw [c4] at p371
    rw [c369] at p371
    obtain ⟨v372, c373⟩ : ∃ v, I358 a0 8 = v := ⟨_, rfl⟩
    have b374 := iv15_8 hS367.1 ta0 c373
    have p375 := p364
    rw [c373] at p375
    rw [c7] at p375
    have p376 := p365
    rw [c369] at p376
    rw [c373] at p376
    rw [c7] at p376
    obtain ⟨v377, c378⟩ : ∃ v, I358 a0 13 = v := ⟨_, rfl⟩
    have p379 := p366
    rw [c4] at p379
    rw [c10] at p379
    rw [c369] at p379
    rw [c378] at p379
    refine tr_goto 186 dX12_readLine_13 (by decide) ?_
    exact tr_vret hZ dX12_readLine_186 rfl (by decide) (by decide) ⟨rfl, rfl, rfl, rfl, rfl, hS367, (by (try rw [c4]); (try rw [c369]); (try omega)), (by (try rw [c373]); (try rw [c7]); (try omega)), (by (try rw [c369]); (try rw [c373]); (try rw [c7]); (try omega)), (by (try rw [c4]); (try rw [c10]); (try rw [c369]); (try rw [c378]); (try omega)), trivial⟩
def wi_X12_readAll : List Nat := [896, 897, 898, 899, 900, 901, 902, 903, 904, 905, 959, 968, 969, 970, 971, 972, 973, 974, 3455, 3519, 3583, 3647, 3711, 3775, 3903, 4031, 4095, 4159, 4223, 4287, 4351, 4415, 4479, 4543, 4607, 4671, 4799, 4863]
def wr_X12_readAll : List Nat := []
set_option maxHeartbeats 4000000 in
theorem k_X12_readAll {l : Launch} {T : Nat → Nat} {cn : Nat} {K N : Nat → Nat} {I0 : cz_I} {R0 : cz_R} {L0 : cz_L} (hW0 : Wf T cn K N I0 R0 0) {a0 : Nat} (ta0 : T a0 = 15) (nn4 : ∃ b, R0 a0 4 = some b) : ConE l mX12_readAll [.ref a0] cn K N I0 R0 L0 (ca_v (fun cn' K' N' I' R' L' => cn = cn' ∧ K = K' ∧ N = N' ∧ R0 = R' ∧ St T cn K N 0 wi_X12_readAll wr_X12_readAll I0 R0 I' R0 ∧ (∀ b1, R0 a0 4 = some b1 → (((I0 a0 9).toInt = 5 → (I0 a0 13).toInt ≥ 1) → ((I' a0 13).toInt ≥ 1 ∨ (I' b1 0).toInt ≥ 1))) ∧ True)) := by
  refine ConE.of (by decide +kernel) rfl (Nat.le_of_ble_eq_true rfl) rfl (fun X hX hZ hE => ?_)
  subst hX
  have hS0 : St T cn K N 0 wi_X12_readAll wr_X12_readAll I0 R0 I0 R0 := St.rf0 hW0
  obtain ⟨a1, d2⟩ := nn4
  have ta1 : T a1 = 14 := hW0.rsN ta0 rfl d2
  obtain ⟨v3, c4⟩ : ∃ v, I0 a0 9 = v := ⟨_, rfl⟩
  have b5 := iv15_9 hS0.1 ta0 c4
  obtain ⟨v6, c7⟩ : ∃ v, I0 a0 13 = v := ⟨_, rfl⟩
  refine q_iconst dX12_readAll_0 (by decide) ?_
  intro v8 h9
  refine tr_istore_n dX12_readAll_1 (by decide) (by decide) ?_
  obtain ⟨v22, c23⟩ : ∃ v, I0 a0 8 = v := ⟨_, rfl⟩
  have b24 := iv15_8 hS0.1 ta0 c23
  have lp28 : ∀ (fu : Nat) (ls : Nat → Option Value) (v10 : Int32) (I13 : cz_I) (L14 : cz_L) (v16 : Int32) (v18 : Int32) (v20 : Int32), ls 0 = some (.ref a0) → ls 1 = some (.int v10) → St T cn K N 0 wi_X12_readAll wr_X12_readAll I0 R0 I13 R0 → I13 a0 9 = v16 → I13 a0 8 = v18 → I13 a0 13 = v20 → ((v3.toInt = 5 → v6.toInt ≥ 1) → (v16.toInt = 5 → v20.toInt ≥ 1)) → 0 ≤ v10.toInt → v10.toInt ≤ 1 → (-v18.toInt + v10.toInt + 900).toNat < fu → Tr X mX12_readAll 2 ls [] cn K N I13 R0 L14 0 0 := by
    intro fu
    induction fu with
    | zero => intros; rename_i hz; exact absurd hz (Nat.not_lt_zero _)
    | succ fu ih28 =>
      intro ls v10 I13 L14 v16 v18 v20 hl11 hl12 hS15 c17 c19 c21 g25 g26 g27 hm28
      have b30 := iv15_9 hS15.1 ta0 c17
      have b31 := iv15_8 hS15.1 ta0 c19
      refine tr_iload_n dX12_readAll_2 hl12 ?_
      refine q_if_eq 20 dX12_readAll_3 (by decide) (fun h32 => ?_) (fun h32 => ?_)
      · skip
        refine tr_aload_n dX12_readAll_20 hl11 ?_
        refine q_getI dX12_readAll_21 fl12_99 (kR15 hS15.1 ta0) c17 ?_
        refine q_iconst dX12_readAll_24 (by decide) ?_
        intro v33 h34
        refine q_icmp_eq 33 dX12_readAll_25 (by decide) (fun h35 => ?_) (fun h35 => ?_)
        · skip
          refine tr_aload_n dX12_readAll_33 hl11 ?_
          refine tr_getR dX12_readAll_34 fl12_188 (kR15 hS15.1 ta0) d2 ?_
          obtain ⟨v36, c37⟩ : ∃ v, I13 a1 0 = v := ⟨_, rfl⟩
          have b38 := iv14_0 hS15.1 ta1 c37
          refine q_getI dX12_readAll_37 fl12_192 (kR14 hS15.1 ta1) c37 ?_
          refine q_if_eq 53 dX12_readAll_40 (by decide) (fun h39 => ?_) (fun h39 => ?_)
          · skip
            refine tr_aload_n dX12_readAll_53 hl11 ?_
            refine q_bipush dX12_readAll_54 (by decide +kernel) ?_
            intro v40 h41
            refine q_callVv hE (M' := mX12_flaw) (as := [_]) dX12_readAll_56 lk12_145 inX12_flaw seX12_flaw myX12_flaw (by decide) ⟨by decide, by decide⟩ rfl (kR15 hS15.1 ta0) (Nat.le_of_ble_eq_true rfl) rfl rfl (by decide) (by decide) (k_X12_flaw hS15.1 ta0 (by omega)) ?_
            rintro cn' K' N' I42 R43 L44 ⟨rfl, rfl, rfl, rfl, rfl, g45, p47, p48, -⟩
            have hS49 := hS15.tr g45 (by decide +kernel) (by decide +kernel)
            have c50 : I42 a0 8 = v18 := (g45.cell ta0 (by decide +kernel)).trans c19
            have c51 : I42 a1 0 = v36 := (g45.cell ta1 (by decide +kernel)).trans c37
            obtain ⟨v52, c53⟩ : ∃ v, I42 a0 9 = v := ⟨_, rfl⟩
            have b54 := iv15_9 hS49.1 ta0 c53
            have p55 := p47
            rw [c53] at p55
            obtain ⟨v56, c57⟩ : ∃ v, I42 a0 13 = v := ⟨_, rfl⟩
            have p58 := p48
            rw [c17] at p58
            rw [c21] at p58
            rw [c57] at p58
            exact tr_vret hZ dX12_readAll_59 rfl (by decide) (by decide) ⟨rfl, rfl, rfl, rfl, rfl, hS49, (fun q0 z0 => by obtain rfl := Option.some.inj ((d2).symm.trans z0); (try rw [c4]); (try rw [c7]); (try rw [c57]); (try rw [c51]); (try omega)), trivial⟩
          · skip
            refine tr_aload_n dX12_readAll_43 hl11 ?_
            refine tr_getR dX12_readAll_44 fl12_188 (kR15 hS15.1 ta0) d2 ?_
            obtain ⟨v59, c60⟩ : ∃ v, I13 a1 3 = v := ⟨_, rfl⟩
            have b61 := iv14_3 hS15.1 ta1 c60
            refine q_getI dX12_readAll_47 fl12_224 (kR14 hS15.1 ta1) c60 ?_
            refine q_if_ne 59 dX12_readAll_50 (by decide) (fun h62 => ?_) (fun h62 => ?_)
            · skip
              exact tr_vret hZ dX12_readAll_59 rfl (by decide) (by decide) ⟨rfl, rfl, rfl, rfl, rfl, hS15, (fun q0 z0 => by obtain rfl := Option.some.inj ((d2).symm.trans z0); (try rw [c4]); (try rw [c7]); (try rw [c21]); (try rw [c37]); (try omega)), trivial⟩
            · skip
              refine tr_aload_n dX12_readAll_53 hl11 ?_
              refine q_bipush dX12_readAll_54 (by decide +kernel) ?_
              intro v63 h64
              refine q_callVv hE (M' := mX12_flaw) (as := [_]) dX12_readAll_56 lk12_145 inX12_flaw seX12_flaw myX12_flaw (by decide) ⟨by decide, by decide⟩ rfl (kR15 hS15.1 ta0) (Nat.le_of_ble_eq_true rfl) rfl rfl (by decide) (by decide) (k_X12_flaw hS15.1 ta0 (by omega)) ?_
              rintro cn' K' N' I65 R66 L67 ⟨rfl, rfl, rfl, rfl, rfl, g68, p70, p71, -⟩
              have hS72 := hS15.tr g68 (by decide +kernel) (by decide +kernel)
              have c73 : I65 a0 8 = v18 := (g68.cell ta0 (by decide +kernel)).trans c19
              have c74 : I65 a1 0 = v36 := (g68.cell ta1 (by decide +kernel)).trans c37
              have c75 : I65 a1 3 = v59 := (g68.cell ta1 (by decide +kernel)).trans c60
              obtain ⟨v76, c77⟩ : ∃ v, I65 a0 9 = v := ⟨_, rfl⟩
              have b78 := iv15_9 hS72.1 ta0 c77
              have p79 := p70
              rw [c77] at p79
              obtain ⟨v80, c81⟩ : ∃ v, I65 a0 13 = v := ⟨_, rfl⟩
              have p82 := p71
              rw [c17] at p82
              rw [c21] at p82
              rw [c81] at p82
              exact tr_vret hZ dX12_readAll_59 rfl (by decide) (by decide) ⟨rfl, rfl, rfl, rfl, rfl, hS72, (fun q0 z0 => by obtain rfl := Option.some.inj ((d2).symm.trans z0); (try rw [c4]); (try rw [c7]); (try rw [c81]); (try rw [c74]); (try omega)), trivial⟩
        · skip
          refine tr_aload_n dX12_readAll_28 hl11 ?_
          refine q_iconst dX12_readAll_29 (by decide) ?_
          intro v83 h84
          refine q_callVv hE (M' := mX12_flaw) (as := [_]) dX12_readAll_30 lk12_145 inX12_flaw seX12_flaw myX12_flaw (by decide) ⟨by decide, by decide⟩ rfl (kR15 hS15.1 ta0) (Nat.le_of_ble_eq_true rfl) rfl rfl (by decide) (by decide) (k_X12_flaw hS15.1 ta0 (by omega)) ?_
          rintro cn' K' N' I85 R86 L87 ⟨rfl, rfl, rfl, rfl, rfl, g88, p90, p91, -⟩
          have hS92 := hS15.tr g88 (by decide +kernel) (by decide +kernel)
          have c93 : I85 a0 8 = v18 := (g88.cell ta0 (by decide +kernel)).trans c19
          obtain ⟨v94, c95⟩ : ∃ v, I85 a0 9 = v := ⟨_, rfl⟩
          have b96 := iv15_9 hS92.1 ta0 c95
          have p97 := p90
          rw [c95] at p97
          obtain ⟨v98, c99⟩ : ∃ v, I85 a0 13 = v := ⟨_, rfl⟩
          have p100 := p91
          rw [c17] at p100
          rw [c21] at p100
          rw [c99] at p100
          refine tr_aload_n dX12_readAll_33 hl11 ?_
          refine tr_getR dX12_readAll_34 fl12_188 (kR15 hS92.1 ta0) d2 ?_
          obtain ⟨v101, c102⟩ : ∃ v, I85 a1 0 = v := ⟨_, rfl⟩
          have b103 := iv14_0 hS92.1 ta1 c102
          refine q_getI dX12_readAll_37 fl12_192 (kR14 hS92.1 ta1) c102 ?_
          refine q_if_eq 53 dX12_readAll_40 (by decide) (fun h104 => ?_) (fun h104 => ?_)
          · skip
            refine tr_aload_n dX12_readAll_53 hl11 ?_
            refine q_bipush dX12_readAll_54 (by decide +kernel) ?_
            intro v105 h106
            refine q_callVv hE (M' := mX12_flaw) (as := [_]) dX12_readAll_56 lk12_145 inX12_flaw seX12_flaw myX12_flaw (by decide) ⟨by decide, by decide⟩ rfl (kR15 hS92.1 ta0) (Nat.le_of_ble_eq_true rfl) rfl rfl (by decide) (by decide) (k_X12_flaw hS92.1 ta0 (by omega)) ?_
            rintro cn' K' N' I107 R108 L109 ⟨rfl, rfl, rfl, rfl, rfl, g110, p112, p113, -⟩
            have hS114 := hS92.tr g110 (by decide +kernel) (by decide +kernel)
            have c115 : I107 a0 8 = v18 := (g110.cell ta0 (by decide +kernel)).trans c93
            have c116 : I107 a1 0 = v101 := (g110.cell ta1 (by decide +kernel)).trans c102
            obtain ⟨v117, c118⟩ : ∃ v, I107 a0 9 = v := ⟨_, rfl⟩
            have b119 := iv15_9 hS114.1 ta0 c118
            have p120 := p112
            rw [c118] at p120
            obtain ⟨v121, c122⟩ : ∃ v, I107 a0 13 = v := ⟨_, rfl⟩
            have p123 := p113
            rw [c95] at p123
            rw [c99] at p123
            rw [c122] at p123
            exact tr_vret hZ dX12_readAll_59 rfl (by decide) (by decide) ⟨rfl, rfl, rfl, rfl, rfl, hS114, (fun q0 z0 => by obtain rfl := Option.some.inj ((d2).symm.trans z0); (try rw [c4]); (try rw [c7]); (try rw [c122]); (try rw [c116]); (try omega)), trivial⟩
          · skip
            refine tr_aload_n dX12_readAll_43 hl11 ?_
            refine tr_getR dX12_readAll_44 fl12_188 (kR15 hS92.1 ta0) d2 ?_
            obtain ⟨v124, c125⟩ : ∃ v, I85 a1 3 = v := ⟨_, rfl⟩
            have b126 := iv14_3 hS92.1 ta1 c125
            refine q_getI dX12_readAll_47 fl12_224 (kR14 hS92.1 ta1) c125 ?_
            refine q_if_ne 59 dX12_readAll_50 (by decide) (fun h127 => ?_) (fun h127 => ?_)
            · skip
              exact tr_vret hZ dX12_readAll_59 rfl (by decide) (by decide) ⟨rfl, rfl, rfl, rfl, rfl, hS92, (fun q0 z0 => by obtain rfl := Option.some.inj ((d2).symm.trans z0); (try rw [c4]); (try rw [c7]); (try rw [c99]); (try rw [c102]); (try omega)), trivial⟩
            · skip
              refine tr_aload_n dX12_readAll_53 hl11 ?_
              refine q_bipush dX12_readAll_54 (by decide +kernel) ?_
              intro v128 h129
              refine q_callVv hE (M' := mX12_flaw) (as := [_]) dX12_readAll_56 lk12_145 inX12_flaw seX12_flaw myX12_flaw (by decide) ⟨by decide, by decide⟩ rfl (kR15 hS92.1 ta0) (Nat.le_of_ble_eq_true rfl) rfl rfl (by decide) (by decide) (k_X12_flaw hS92.1 ta0 (by omega)) ?_
              rintro cn' K' N' I130 R131 L132 ⟨rfl, rfl, rfl, rfl, rfl, g133, p135, p136, -⟩
              have hS137 := hS92.tr g133 (by decide +kernel) (by decide +kernel)
              have c138 : I130 a0 8 = v18 := (g133.cell ta0 (by decide +kernel)).trans c93
              have c139 : I130 a1 0 = v101 := (g133.cell ta1 (by decide +kernel)).trans c102
              have c140 : I130 a1 3 = v124 := (g133.cell ta1 (by decide +kernel)).trans c125
              obtain ⟨v141, c142⟩ : ∃ v, I130 a0 9 = v := ⟨_, rfl⟩
              have b143 := iv15_9 hS137.1 ta0 c142
              have p144 := p135
              rw [c142] at p144
              obtain ⟨v145, c146⟩ : ∃ v, I130 a0 13 = v := ⟨_, rfl⟩
              have p147 := p136
              rw [c95] at p147
              rw [c99] at p147
              rw [c146] at p147
              exact tr_vret hZ dX12_readAll_59 rfl (by decide) (by decide) ⟨rfl, rfl, rfl, rfl, rfl, hS137, (fun q0 z0 => by obtain rfl := Option.some.inj ((d2).symm.trans z0); (try rw [c4]); (try rw [c7]); (try rw [c146]); (try rw [c139]); (try omega)), trivial⟩
      · skip
        refine tr_aload_n dX12_readAll_6 hl11 ?_
        refine q_callVv hE (M' := mX12_readLine) (as := []) dX12_readAll_7 lk12_218 inX12_readLine seX12_readLine myX12_readLine (by decide) ⟨by decide, by decide⟩ rfl (kR15 hS15.1 ta0) (Nat.le_of_ble_eq_true rfl) rfl rfl (by decide) (by decide) (k_X12_readLine hS15.1 ta0 ⟨_, d2⟩) ?_
        rintro cn' K' N' I148 R149 L150 ⟨rfl, rfl, rfl, rfl, g151, p153, p154, p155, p156, -⟩
        have hS157 := hS15.tr g151 (by decide +kernel) (by decide +kernel)
        obtain ⟨v158, c159⟩ : ∃ v, I148 a0 9 = v := ⟨_, rfl⟩
        have b160 := iv15_9 hS157.1 ta0 c159
        have p161 := p153
        rw [c17] at p161
        rw [c159] at p161
        obtain ⟨v162, c163⟩ : ∃ v, I148 a0 8 = v := ⟨_, rfl⟩
        have b164 := iv15_8 hS157.1 ta0 c163
        have p165 := p154
        rw [c163] at p165
        rw [c19] at p165
        have p166 := p155
        rw [c159] at p166
        rw [c163] at p166
        rw [c19] at p166
        obtain ⟨v167, c168⟩ : ∃ v, I148 a0 13 = v := ⟨_, rfl⟩
        have p169 := p156
        rw [c17] at p169
        rw [c21] at p169
        rw [c159] at p169
        rw [c168] at p169
        refine tr_aload_n dX12_readAll_10 hl11 ?_
        refine q_bipush dX12_readAll_11 (by decide +kernel) ?_
        intro v170 h171
        refine q_callVi hE (M' := mX12_eatsSign) (as := [_]) dX12_readAll_13 lk12_221 inX12_eatsSign seX12_eatsSign myX12_eatsSign (by decide) ⟨by decide, by decide⟩ rfl (kR15 hS157.1 ta0) (Nat.le_of_ble_eq_true rfl) rfl rfl (by decide) (by decide) (k_X12_eatsSign hS157.1 ta0) ?_
        rintro v176 cn' K' N' I172 R173 L174 ⟨rfl, rfl, rfl, rfl, g175, h177, p178, p179, p180, -⟩
        have hS181 := hS157.tr g175 (by decide +kernel) (by decide +kernel)
        have c182 : I172 a0 13 = v167 := (g175.cell ta0 (by decide +kernel)).trans c168
        obtain ⟨v183, c184⟩ : ∃ v, I172 a0 9 = v := ⟨_, rfl⟩
        have b185 := iv15_9 hS181.1 ta0 c184
        obtain ⟨v186, c187⟩ : ∃ v, I172 a0 8 = v := ⟨_, rfl⟩
        have b188 := iv15_8 hS181.1 ta0 c187
        have p189 := p178
        rw [c184] at p189
        rw [c159] at p189
        rw [c187] at p189
        rw [c163] at p189
        have p190 := p179
        rw [c159] at p190
        rw [c184] at p190
        rw [c187] at p190
        rw [c163] at p190
        have p191 := p180
        rw [c184] at p191
        rw [c187] at p191
        rw [c163] at p191
        refine tr_istore_n dX12_readAll_16 (by decide) (by decide) ?_
        refine tr_goto 2 dX12_readAll_17 (by decide) ?_
        exact ih28 _ v176 I172 L174 v183 v186 v167 hl11 rfl hS181 c184 c187 c182 (by omega) (by omega) (by omega) (by omega)
  exact lp28 _ _ v8 I0 L0 v3 v22 v6 rfl rfl hS0 c4 c23 c7 (by omega) (by omega) (by omega) (Nat.lt_succ_self _)
