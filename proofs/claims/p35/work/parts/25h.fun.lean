def wik_X7_readCheese : List Nat := [133, 135, 450, 451, 452, 454, 455, 463, 464, 1343]
def wrk_X7_readCheese : List Nat := []
def wlk_X7_readCheese : List Nat := [453, 1663]
set_option maxHeartbeats 4000000 in
theorem fk_X7_readCheese {l : Launch} {T : Nat → Nat} {cn : Nat} {K N : Nat → Nat} {I0 : cz_I} {R0 : cz_R} {L0 : cz_L} {d : Int} (hW0 : Wf T cn K N I0 R0 d) (gB : cz_B) (gs : Int) (gQ : Nat → Int) {a0 : Nat} (ta0 : T a0 = 7) (hT : ∀ t, R0 a0 0 = some t → Tx I0 t gB) (hN : NmC L0 R0 a0 gQ) (pre0 : (I0 a0 2).toInt = (tkN gB gs)) (pre1 : (I0 a0 4).toInt = (tkS gB gs)) (pre2 : (I0 a0 3).toInt = (tkK gB gs)) (pre3 : (AtW ((tkK gB gs)) ((L0 a0 5).toInt) ((tkW gB gs)))) (pre4 : (AtV ((tkK gB gs)) ((I0 a0 6).toInt) ((tkV gB gs)))) (pre5 : (I0 a0 1).toInt = (gB.2)) (pre6 : ∀ b1, R0 a0 10 = some b1 → (I0 b1 1).toInt = (gQ 1)) (pre7 : ∀ b1, R0 a0 10 = some b1 → (I0 b1 5).toInt = (gQ 3)) (pre8 : ∀ b1, R0 a0 10 = some b1 → (I0 b1 9).toInt = (gQ 4)) (pre9 : (gQ 3) ≤ 7) (pre10 : (gQ 4) ≤ 5) : ConE l mX7_readCheese [.ref a0] cn K N I0 R0 L0 (ca_i (fun v cn' K' N' I' R' L' => cn = cn' ∧ K = K' ∧ N = N' ∧ R0 = R' ∧ St T cn K N d wik_X7_readCheese wrk_X7_readCheese I0 R0 I' R0 ∧ LgS T wlk_X7_readCheese L0 L' ∧ (0 ≤ v.toInt ∧ v.toInt ≤ 1) ∧ (∀ dr, R0 a0 10 = some dr → FrO 2 dr T I0 I') ∧ (((v.toInt = 1) ∧ ((I' a0 15).toInt = (I0 a0 15).toInt) ∧ ((chF gB gQ gs) = 0) ∧ (∀ b1, R0 a0 10 = some b1 → (I' b1 5).toInt = (gQ 3) + 1) ∧ ((I' a0 2).toInt = (tkN gB (chS gB gQ gs))) ∧ ((I' a0 4).toInt = (tkS gB (chS gB gQ gs))) ∧ ((I' a0 3).toInt = (tkK gB (chS gB gQ gs))) ∧ ((AtW ((tkK gB (chS gB gQ gs))) ((L' a0 5).toInt) ((tkW gB (chS gB gQ gs))))) ∧ ((AtV ((tkK gB (chS gB gQ gs))) ((I' a0 6).toInt) ((tkV gB (chS gB gQ gs))))) ∧ (NmC L' R0 a0 (bdQ gB gQ 5 gs)) ∧ True) ∨ ((v.toInt = 0) ∧ ((chF gB gQ gs) ≠ 0) ∧ ((I' a0 15).toInt = (chF gB gQ gs)) ∧ ((I' a0 16).toInt = (chP gB gQ gs)) ∧ True)) ∧ True)) := by
  refine ConE.of (by decide +kernel) rfl (Nat.le_of_ble_eq_true rfl) rfl (fun X hX hZ hE => ?_)
  subst hX
  have hS0 : St T cn K N d wik_X7_readCheese wrk_X7_readCheese I0 R0 I0 R0 := St.rf0 hW0
  have hL0 : LgS T wlk_X7_readCheese L0 L0 := LgS.rf0
  obtain ⟨v1, c2⟩ : ∃ v, I0 a0 2 = v := ⟨_, rfl⟩
  have b3 := iv7_2 hS0.1 ta0 c2
  have p4 := pre0
  rw [c2] at p4
  obtain ⟨v5, c6⟩ : ∃ v, I0 a0 4 = v := ⟨_, rfl⟩
  have b7 := iv7_4 hS0.1 ta0 c6
  have p8 := pre1
  rw [c6] at p8
  obtain ⟨v9, c10⟩ : ∃ v, I0 a0 3 = v := ⟨_, rfl⟩
  have b11 := iv7_3 hS0.1 ta0 c10
  have p12 := pre2
  rw [c10] at p12
  obtain ⟨y13, c14⟩ : ∃ v, L0 a0 5 = v := ⟨_, rfl⟩
  have p15 := pre3
  rw [c14] at p15
  obtain ⟨v16, c17⟩ : ∃ v, I0 a0 6 = v := ⟨_, rfl⟩
  have p18 := pre4
  rw [c17] at p18
  obtain ⟨v19, c20⟩ : ∃ v, I0 a0 1 = v := ⟨_, rfl⟩
  have b21 := iv7_1 hW0 ta0 c20
  have p22 := pre5
  rw [c20] at p22
  obtain ⟨a23, d24, ta23⟩ := rf7_10 hW0 ta0
  obtain ⟨v25, c26⟩ : ∃ v, I0 a23 1 = v := ⟨_, rfl⟩
  have b27 := iv2_1 hW0 ta23 c26
  have p28 := pre6 _ d24
  rw [c26] at p28
  obtain ⟨v29, c30⟩ : ∃ v, I0 a23 5 = v := ⟨_, rfl⟩
  have b31 := iv2_5 hS0.1 ta23 c30
  have p32 := pre7 _ d24
  rw [c30] at p32
  obtain ⟨v33, c34⟩ : ∃ v, I0 a23 9 = v := ⟨_, rfl⟩
  have b35 := iv2_9 hW0 ta23 c34
  have p36 := pre8 _ d24
  rw [c34] at p36
  have p37 := pre9
  have p38 := pre10
  obtain ⟨v39, c40⟩ : ∃ v, I0 a0 15 = v := ⟨_, rfl⟩
  have hO0 : FrO 2 a23 T I0 I0 := FrO.rf
  have hF := chF_ch gB gQ gs
  have hP := chP_ch gB gQ gs
  refine tr_aload_n dX7_readCheese_0 rfl ?_
  refine q_callVi hE (M' := mX7_seesNewName) (as := []) dX7_readCheese_1 lk7_231 inX7_seesNewName seX7_seesNewName myX7_seesNewName (by decide) ⟨by decide, by decide⟩ rfl (kR7 hS0.1 ta0) (Nat.le_of_ble_eq_true rfl) rfl rfl (by decide) (by decide) (fk_X7_seesNewName hS0.1 (gB) (gs) (gQ) ta0 hN (by (try rw [c6]); first | done | with_reducible assumption | omega) (by (try rw [c10]); first | done | with_reducible assumption | omega) (by (try rw [c14]); first | done | assumption) (fun q0 z0 => by obtain rfl := Option.some.inj ((d24).symm.trans z0); (try rw [c30]); first | done | with_reducible assumption | omega) (fun q0 z0 => by obtain rfl := Option.some.inj ((d24).symm.trans z0); (try rw [c34]); first | done | with_reducible assumption | omega)) ?_
  rintro v46 cn' K' N' I41 R42 L43 ⟨rfl, rfl, rfl, rfl, rfl, g44, h47, dj48, -⟩
  have hS49 := hS0.tr g44 (by decide +kernel) (by decide +kernel)
  have c50 : I41 a0 2 = v1 := (g44.cell ta0 (by decide +kernel)).trans c2
  have c51 : I41 a0 4 = v5 := (g44.cell ta0 (by decide +kernel)).trans c6
  have c52 : I41 a0 3 = v9 := (g44.cell ta0 (by decide +kernel)).trans c10
  have c53 : I41 a0 6 = v16 := (g44.cell ta0 (by decide +kernel)).trans c17
  have c54 : I41 a23 5 = v29 := (g44.cell ta23 (by decide +kernel)).trans c30
  have hO55 : FrO 2 a23 T I0 I41 := hO0.st g44 (by decide +kernel)
  rcases dj48 with ⟨p56, p57, p58, p59, p60, p61, -⟩ | ⟨p62, p63, p64, p65, -⟩ | ⟨p66, p67, p68, p69, p70, -⟩
  · skip
    obtain ⟨v71, c72⟩ : ∃ v, I41 a0 15 = v := ⟨_, rfl⟩
    rw [c72] at p57
    rw [c40] at p57
    replace hF := hF.neg (by exact om_e4d065d5 p58)
    replace hP := hP.neg (by exact om_e4d065d5 p58)
    replace hF := hF.neg (by exact om_e6f60cd2 p60 p61)
    replace hP := hP.neg (by exact om_e6f60cd2 p60 p61)
    refine q_if_ne 9 dX7_readCheese_4 (by decide) (fun h73 => ?_) (fun h73 => ?_)
    · skip
      refine tr_aload_n dX7_readCheese_9 rfl ?_
      refine tr_getR dX7_readCheese_10 fl7_22 (kR7 hS49.1 ta0) d24 ?_
      refine q_getI dX7_readCheese_13 fl7_61 (kR2 hS49.1 ta23) c54 ?_
      refine tr_istore_n dX7_readCheese_16 (by decide) (by decide) ?_
      refine tr_aload_n dX7_readCheese_17 rfl ?_
      obtain ⟨a74, d75, ta74⟩ := rf7_13 hW0 ta0
      refine tr_getR dX7_readCheese_18 fl7_9 (kR7 hS49.1 ta0) d75 ?_
      refine tr_iload_n dX7_readCheese_21 rfl ?_
      refine tr_aload_n dX7_readCheese_22 rfl ?_
      have p76 := p15 (by exact om_ee8a1e2d p59)
      refine q_getLE dX7_readCheese_23 fl7_78 (kR7 hS49.1 ta0) c14 ?_
      refine q_lastE dX7_readCheese_26 (kR25 hS49.1 ta74) (ti_in (nR25 hS49.1 ta74) (by exact om_bd20c0b9 pre9 b31.2 b31.1 p32) (by exact om_ab088807 pre9 b31.2 b31.1 p32)) hL0 ta74 (by rfl) ?_
      intro L77 hL78 e79 f80
      have c81 : L77 a0 5 = y13 := (f80 _ _ (fun q => by have z := ta0; rw [q.1, ta74] at z; exact absurd z (by decide))).trans c14
      have hN82 : NmC L77 R0 a0 gQ := NmC.w13 hN hS49.1 ta0 d75 f80 (by have q := ti_nat (i := v29) (by exact om_bd20c0b9 pre9 b31.2 b31.1 p32); exact om_eac64b98 p32 q)
      refine tr_aload_n dX7_readCheese_27 rfl ?_
      refine q_callVv hE (M' := mX7_step) (as := []) dX7_readCheese_28 lk7_51 inX7_step seX7_step myX7_step (by decide) ⟨by decide, by decide⟩ rfl (kR7 hS49.1 ta0) (Nat.le_of_ble_eq_true rfl) rfl rfl (by decide) (by decide) (fk_X7_step hS49.1 (gB) ((tkN gB gs)) ta0 (TxA.kp hT hS49 ta0 rfl rfl rfl (by decide +kernel) (by decide +kernel)) (by (try rw [c50]); first | done | with_reducible assumption | omega) (by (try rw [((hS49.cell ta0 (by decide +kernel)).trans c20)]); first | done | with_reducible assumption | omega)) ?_
      rintro cn' K' N' I83 R84 L85 ⟨rfl, rfl, rfl, rfl, g86, gl87, p89, p90, p91, p92, p93, -⟩
      have hS94 := hS49.tr g86 (by decide +kernel) (by decide +kernel)
      have c95 : I83 a23 5 = v29 := (g86.cell ta23 (by decide +kernel)).trans c54
      have c96 : I83 a0 15 = v71 := (g86.cell ta0 (by decide +kernel)).trans c72
      have hO97 : FrO 2 a23 T I0 I83 := hO55.st g86 (by decide +kernel)
      have hL98 := hL78.tr gl87 (by decide +kernel)
      have c99 : L85 a74 v29.toNatClampNeg = y13 := (gl87.cell ta74 (wm_no (by decide +kernel))).trans e79
      have hN100 : NmC L85 R0 a0 gQ := NmC.kp hN82 gl87 hS94.1 ta0 (by decide +kernel) (by decide +kernel)
      obtain ⟨v101, c102⟩ : ∃ v, I83 a0 2 = v := ⟨_, rfl⟩
      have b103 := iv7_2 hS94.1 ta0 c102
      rw [c102] at p89
      obtain ⟨v104, c105⟩ : ∃ v, I83 a0 4 = v := ⟨_, rfl⟩
      have b106 := iv7_4 hS94.1 ta0 c105
      rw [c105] at p90
      obtain ⟨v107, c108⟩ : ∃ v, I83 a0 3 = v := ⟨_, rfl⟩
      have b109 := iv7_3 hS94.1 ta0 c108
      rw [c108] at p91
      obtain ⟨y110, c111⟩ : ∃ v, L85 a0 5 = v := ⟨_, rfl⟩
      rw [c111] at p92
      obtain ⟨v112, c113⟩ : ∃ v, I83 a0 6 = v := ⟨_, rfl⟩
      rw [c113] at p93
      refine tr_aload_n dX7_readCheese_31 rfl ?_
      refine tr_ldcS dX7_readCheese_32 ld7_234 ?_
      refine q_callVi hE (M' := mX7_takeWord) (as := [_]) dX7_readCheese_34 lk7_126 inX7_takeWord seX7_takeWord myX7_takeWord (by decide) ⟨by decide, by decide⟩ rfl (kR7 hS94.1 ta0) (Nat.le_of_ble_eq_true rfl) rfl rfl (by decide) (by decide) (fk_X7_takeWord hS94.1 (gB) ((tkN gB gs)) ta0 (by decide) (TxA.kp hT hS94 ta0 rfl rfl rfl (by decide +kernel) (by decide +kernel)) (by (try rw [c102]); first | done | with_reducible assumption | omega) (by (try rw [c105]); first | done | with_reducible assumption | omega) (by (try rw [c108]); first | done | with_reducible assumption | omega) (by (try rw [c111]); first | done | assumption) (by (try rw [c113]); first | done | assumption) (by (try rw [((hS94.cell ta0 (by decide +kernel)).trans c20)]); first | done | with_reducible assumption | omega)) ?_
      rintro v119 cn' K' N' I114 R115 L116 ⟨rfl, rfl, rfl, rfl, g117, gl118, h120, dj121, -⟩
      (try rw [pk_15] at dj121)
      have hS122 := hS94.tr g117 (by decide +kernel) (by decide +kernel)
      have c123 : I114 a23 5 = v29 := (g117.cell ta23 (by decide +kernel)).trans c95
      have hO124 : FrO 2 a23 T I0 I114 := hO97.st g117 (by decide +kernel)
      have hL125 := hL98.tr gl118 (by decide +kernel)
      have c126 : L116 a74 v29.toNatClampNeg = y13 := (gl118.cell ta74 (wm_no (by decide +kernel))).trans c99
      have hN127 : NmC L116 R0 a0 gQ := NmC.kp hN100 gl118 hS122.1 ta0 (by decide +kernel) (by decide +kernel)
      rcases dj121 with ⟨p128, p129, p130, p131, p132, p133, p134, p135, p136, -⟩ | ⟨p137, p138, p139, p140, -⟩
      · skip
        obtain ⟨v141, c142⟩ : ∃ v, I114 a0 15 = v := ⟨_, rfl⟩
        rw [c142] at p129
        rw [c96] at p129
        obtain ⟨v143, c144⟩ : ∃ v, I114 a0 2 = v := ⟨_, rfl⟩
        have b145 := iv7_2 hS122.1 ta0 c144
        rw [c144] at p132
        obtain ⟨v146, c147⟩ : ∃ v, I114 a0 4 = v := ⟨_, rfl⟩
        have b148 := iv7_4 hS122.1 ta0 c147
        rw [c147] at p133
        obtain ⟨v149, c150⟩ : ∃ v, I114 a0 3 = v := ⟨_, rfl⟩
        have b151 := iv7_3 hS122.1 ta0 c150
        rw [c150] at p134
        obtain ⟨y152, c153⟩ : ∃ v, L116 a0 5 = v := ⟨_, rfl⟩
        rw [c153] at p135
        obtain ⟨v154, c155⟩ : ∃ v, I114 a0 6 = v := ⟨_, rfl⟩
        rw [c155] at p136
        replace hF := hF.neg (by exact om_28513e2f p130 p131)
        replace hP := hP.neg (by exact om_28513e2f p130 p131)
        refine q_if_eq 47 dX7_readCheese_37 (by decide) (fun h156 => ?_) (fun h156 => ?_)
        · skip
          exfalso; exact om_3624102b p128 h156
        · skip
          refine tr_aload_n dX7_readCheese_40 rfl ?_
          refine q_callVi hE (M' := mX7_takeHut) (as := []) dX7_readCheese_41 lk7_223 inX7_takeHut seX7_takeHut myX7_takeHut (by decide) ⟨by decide, by decide⟩ rfl (kR7 hS122.1 ta0) (Nat.le_of_ble_eq_true rfl) rfl rfl (by decide) (by decide) (fk_X7_takeHut hS122.1 (gB) ((tkN gB (tkN gB gs))) (gQ) ta0 (TxA.kp hT hS122 ta0 rfl rfl rfl (by decide +kernel) (by decide +kernel)) (by (try rw [c144]); first | done | with_reducible assumption | omega) (by (try rw [c147]); first | done | with_reducible assumption | omega) (by (try rw [c150]); first | done | with_reducible assumption | omega) (by (try rw [c153]); first | done | assumption) (by (try rw [c155]); first | done | assumption) (by (try rw [((hS122.cell ta0 (by decide +kernel)).trans c20)]); first | done | with_reducible assumption | omega) (fun q0 z0 => by obtain rfl := Option.some.inj ((d24).symm.trans z0); (try rw [((hS122.cell ta23 (by decide +kernel)).trans c26)]); first | done | with_reducible assumption | omega)) ?_
          rintro v162 cn' K' N' I157 R158 L159 ⟨rfl, rfl, rfl, rfl, g160, gl161, h163, dj164, -⟩
          have hS165 := hS122.tr g160 (by decide +kernel) (by decide +kernel)
          have c166 : I157 a23 5 = v29 := (g160.cell ta23 (by decide +kernel)).trans c123
          have hO167 : FrO 2 a23 T I0 I157 := hO124.st g160 (by decide +kernel)
          have hL168 := hL125.tr gl161 (by decide +kernel)
          have c169 : L159 a74 v29.toNatClampNeg = y13 := (gl161.cell ta74 (wm_no (by decide +kernel))).trans c126
          have hN170 : NmC L159 R0 a0 gQ := NmC.kp hN127 gl161 hS165.1 ta0 (by decide +kernel) (by decide +kernel)
          rcases dj164 with ⟨p171, p172, p173, p174, p175, p176, p177, p178, p179, p180, p181, -⟩ | ⟨p182, p183, p184, p185, -⟩ | ⟨p186, p187, p188, p189, p190, -⟩
          · skip
            obtain ⟨v191, c192⟩ : ∃ v, I157 a0 15 = v := ⟨_, rfl⟩
            rw [c192] at p172
            rw [c142] at p172
            obtain ⟨v193, c194⟩ : ∃ v, I157 a0 7 = v := ⟨_, rfl⟩
            have b195 := iv7_7 hS165.1 ta0 c194
            rw [c194] at p176
            obtain ⟨v196, c197⟩ : ∃ v, I157 a0 2 = v := ⟨_, rfl⟩
            have b198 := iv7_2 hS165.1 ta0 c197
            rw [c197] at p177
            obtain ⟨v199, c200⟩ : ∃ v, I157 a0 4 = v := ⟨_, rfl⟩
            have b201 := iv7_4 hS165.1 ta0 c200
            rw [c200] at p178
            obtain ⟨v202, c203⟩ : ∃ v, I157 a0 3 = v := ⟨_, rfl⟩
            have b204 := iv7_3 hS165.1 ta0 c203
            rw [c203] at p179
            obtain ⟨y205, c206⟩ : ∃ v, L159 a0 5 = v := ⟨_, rfl⟩
            rw [c206] at p180
            obtain ⟨v207, c208⟩ : ∃ v, I157 a0 6 = v := ⟨_, rfl⟩
            rw [c208] at p181
            replace hF := hF.neg (by exact om_10ed11b5 p173)
            replace hP := hP.neg (by exact om_10ed11b5 p173)
            replace hF := hF.neg (by exact om_4fadaeb8 p174 p175 p176 b195.2)
            replace hP := hP.neg (by exact om_4fadaeb8 p174 p175 p176 b195.2)
            refine q_if_ne 49 dX7_readCheese_44 (by decide) (fun h209 => ?_) (fun h209 => ?_)
            · skip
              refine tr_aload_n dX7_readCheese_49 rfl ?_
              refine tr_getR dX7_readCheese_50 fl7_22 (kR7 hS165.1 ta0) d24 ?_
              obtain ⟨a210, d211, ta210⟩ := rf2_6 hW0 ta23
              refine tr_getR dX7_readCheese_53 fl7_235 (kR2 hS165.1 ta23) d211 ?_
              refine tr_iload_n dX7_readCheese_56 rfl ?_
              refine tr_aload_n dX7_readCheese_57 rfl ?_
              refine q_getI dX7_readCheese_58 fl7_109 (kR7 hS165.1 ta0) c194 ?_
              refine q_iast dX7_readCheese_61 (kR20 hS165.1 ta210) (ti_in (nR20 hS165.1 ta210) (by exact om_bd20c0b9 pre9 b31.2 b31.1 p32) (by exact om_ab088807 pre9 b31.2 b31.1 p32)) hS165 ta210 (iokF rfl) rfl (by rfl) ?_
              intro I212 hS213 e215 f214
              have c216 : I212 a23 5 = v29 := (f214 _ _ (fun q => by have z := ta23; rw [q.1, ta210] at z; exact absurd z (by decide))).trans c166
              have c217 : I212 a0 15 = v191 := (f214 _ _ (fun q => by have z := ta0; rw [q.1, ta210] at z; exact absurd z (by decide))).trans c192
              have c218 : I212 a0 7 = v193 := (f214 _ _ (fun q => by have z := ta0; rw [q.1, ta210] at z; exact absurd z (by decide))).trans c194
              have c219 : I212 a0 2 = v196 := (f214 _ _ (fun q => by have z := ta0; rw [q.1, ta210] at z; exact absurd z (by decide))).trans c197
              have c220 : I212 a0 4 = v199 := (f214 _ _ (fun q => by have z := ta0; rw [q.1, ta210] at z; exact absurd z (by decide))).trans c200
              have c221 : I212 a0 3 = v202 := (f214 _ _ (fun q => by have z := ta0; rw [q.1, ta210] at z; exact absurd z (by decide))).trans c203
              have c222 : I212 a0 6 = v207 := (f214 _ _ (fun q => by have z := ta0; rw [q.1, ta210] at z; exact absurd z (by decide))).trans c208
              have hO223 : FrO 2 a23 T I0 I212 := hO167.put f214 ta210 (Or.inl (by decide))
              refine tr_aload_n dX7_readCheese_62 rfl ?_
              refine tr_ldcS dX7_readCheese_63 ld7_238 ?_
              refine q_callVi hE (M' := mX7_seesWord) (as := [_]) dX7_readCheese_65 lk7_101 inX7_seesWord seX7_seesWord myX7_seesWord (by decide) ⟨by decide, by decide⟩ rfl (kR7 hS213.1 ta0) (Nat.le_of_ble_eq_true rfl) rfl rfl (by decide) (by decide) (fk_X7_seesWord hS213.1 (gB) ((tkN gB (tkN gB (tkN gB gs)))) ta0 (by decide) (by (try rw [c221]); first | done | with_reducible assumption | omega) (by (try rw [c206]); first | done | assumption)) ?_
              rintro v229 cn' K' N' I224 R225 L226 ⟨rfl, rfl, rfl, rfl, rfl, rfl, h230, dj231, -⟩
              (try rw [pk_10] at dj231)
              rcases dj231 with ⟨p232, p233, p234, -⟩ | ⟨p235, p236, -⟩
              · skip
                refine q_if_eq 78 dX7_readCheese_68 (by decide) (fun h237 => ?_) (fun h237 => ?_)
                · skip
                  exfalso; exact om_3624102b p232 h237
                · skip
                  refine tr_aload_n dX7_readCheese_71 rfl ?_
                  refine q_callVv hE (M' := mX7_step) (as := []) dX7_readCheese_72 lk7_51 inX7_step seX7_step myX7_step (by decide) ⟨by decide, by decide⟩ rfl (kR7 hS213.1 ta0) (Nat.le_of_ble_eq_true rfl) rfl rfl (by decide) (by decide) (fk_X7_step hS213.1 (gB) ((tkN gB (tkN gB (tkN gB (tkN gB gs))))) ta0 (TxA.kp hT hS213 ta0 rfl rfl rfl (by decide +kernel) (by decide +kernel)) (by (try rw [c219]); first | done | with_reducible assumption | omega) (by (try rw [((hS213.cell ta0 (by decide +kernel)).trans c20)]); first | done | with_reducible assumption | omega)) ?_
                  rintro cn' K' N' I238 R239 L240 ⟨rfl, rfl, rfl, rfl, g241, gl242, p244, p245, p246, p247, p248, -⟩
                  have hS249 := hS213.tr g241 (by decide +kernel) (by decide +kernel)
                  have c250 : I238 a23 5 = v29 := (g241.cell ta23 (by decide +kernel)).trans c216
                  have c251 : I238 a0 15 = v191 := (g241.cell ta0 (by decide +kernel)).trans c217
                  have c252 : I238 a0 7 = v193 := (g241.cell ta0 (by decide +kernel)).trans c218
                  have hO253 : FrO 2 a23 T I0 I238 := hO223.st g241 (by decide +kernel)
                  have hL254 := hL168.tr gl242 (by decide +kernel)
                  have c255 : L240 a74 v29.toNatClampNeg = y13 := (gl242.cell ta74 (wm_no (by decide +kernel))).trans c169
                  have hN256 : NmC L240 R0 a0 gQ := NmC.kp hN170 gl242 hS249.1 ta0 (by decide +kernel) (by decide +kernel)
                  obtain ⟨v257, c258⟩ : ∃ v, I238 a0 2 = v := ⟨_, rfl⟩
                  have b259 := iv7_2 hS249.1 ta0 c258
                  rw [c258] at p244
                  obtain ⟨v260, c261⟩ : ∃ v, I238 a0 4 = v := ⟨_, rfl⟩
                  have b262 := iv7_4 hS249.1 ta0 c261
                  rw [c261] at p245
                  obtain ⟨v263, c264⟩ : ∃ v, I238 a0 3 = v := ⟨_, rfl⟩
                  have b265 := iv7_3 hS249.1 ta0 c264
                  rw [c264] at p246
                  obtain ⟨y266, c267⟩ : ∃ v, L240 a0 5 = v := ⟨_, rfl⟩
                  rw [c267] at p247
                  obtain ⟨v268, c269⟩ : ∃ v, I238 a0 6 = v := ⟨_, rfl⟩
                  rw [c269] at p248
                  refine tr_goto 93 dX7_readCheese_75 (by decide) ?_
                  refine tr_aload_n dX7_readCheese_93 rfl ?_
                  refine tr_getR dX7_readCheese_94 fl7_22 (kR7 hS249.1 ta0) d24 ?_
                  refine tr_dup dX7_readCheese_97 rfl ?_
                  refine q_getI dX7_readCheese_98 fl7_61 (kR2 hS249.1 ta23) c250 ?_
                  refine q_iconst dX7_readCheese_101 (by decide) ?_
                  intro v270 h271
                  refine q_iaddE dX7_readCheese_102 (by intro j1 j2 j3 j4; exact om_ea1db01a pre9 b31.2 b31.1 p32 h271) ?_
                  intro v272 h273
                  refine q_putI dX7_readCheese_103 fl7_61 (kR2 hS249.1 ta23) (Or.inl rfl) hS249 ta23 (by show (0 : Int) ≤ v272.toInt ∧ v272.toInt ≤ (8 : Int); exact om_7c38f977 pre9 b31.2 b31.1 p32 h271 h273) rfl (by decide +kernel) ?_
                  intro I274 hS275 e276 f277
                  have c278 : I274 a0 15 = v191 := (f277 _ _ (fun q => absurd q.2 (by decide))).trans c251
                  have c279 : I274 a0 7 = v193 := (f277 _ _ (fun q => absurd q.2 (by decide))).trans c252
                  have c280 : I274 a0 2 = v257 := (f277 _ _ (fun q => absurd q.2 (by decide))).trans c258
                  have c281 : I274 a0 4 = v260 := (f277 _ _ (fun q => absurd q.2 (by decide))).trans c261
                  have c282 : I274 a0 3 = v263 := (f277 _ _ (fun q => absurd q.2 (by decide))).trans c264
                  have c283 : I274 a0 6 = v268 := (f277 _ _ (fun q => absurd q.2 (by decide))).trans c269
                  have hO284 : FrO 2 a23 T I0 I274 := hO253.put f277 ta23 (Or.inr rfl)
                  refine q_iconst dX7_readCheese_106 (by decide) ?_
                  intro v285 h286
                  have eF := hF.eq
                  have eP := hP.eq
                  have es287 : chS gB gQ gs = (tkN gB (tkN gB (tkN gB (tkN gB gs)))) := by exact om_67758a6f p233 p234
                  obtain ⟨v288, c289⟩ : ∃ v, I274 a0 16 = v := ⟨_, rfl⟩
                  exact tr_zret hZ dX7_readCheese_107 rfl (ti_b01 (by exact om_f9079521 h286) (by exact om_e6632817 h286)) (by decide) (by decide) ⟨v285, rfl, rfl, rfl, rfl, rfl, hS275, hL254, (by exact om_d753bc65 h286), (fun dr hd => (Option.some.inj (d24.symm.trans hd)) ▸ hO284), (Or.inl ⟨(by (try rw [es287]); first | done | with_reducible assumption | omega), (by (try rw [es287]); (try rw [c278]); (try rw [c40]); first | done | with_reducible assumption | exact om_1c22ab7e p57 p129 p172), (by (try rw [es287]); first | done | with_reducible assumption | omega), (fun q0 z0 => by obtain rfl := Option.some.inj ((d24).symm.trans z0); (try rw [es287]); (try rw [e276]); first | done | with_reducible assumption | exact om_58c7f992 p32 h271 h273), (by (try rw [es287]); (try rw [c280]); first | done | with_reducible assumption | omega), (by (try rw [es287]); (try rw [c281]); first | done | with_reducible assumption | omega), (by (try rw [es287]); (try rw [c282]); first | done | with_reducible assumption | omega), (by (try rw [es287]); (try rw [c267]); first | done | assumption), (by (try rw [es287]); (try rw [c283]); first | done | assumption), (NmC.up3 hN256 d75 (by rw [c255]; exact om_acd7a85a p76) (by have q := ti_nat (i := v29) (by exact om_b2fb2c72 pre9 b31.2 b31.1 p32 h271 h273); exact om_24c30391 p32 h271 h273 q) (by exact om_7ca80ae8 pre9 b31.2 b31.1 p32 h271 h273) (by exact om_8bcc88d8 p38)), trivial⟩), trivial⟩
              · skip
                refine q_if_eq 78 dX7_readCheese_68 (by decide) (fun h290 => ?_) (fun h290 => ?_)
                · skip
                  refine tr_aload_n dX7_readCheese_78 rfl ?_
                  refine tr_getR dX7_readCheese_79 fl7_22 (kR7 hS213.1 ta0) d24 ?_
                  refine tr_dup dX7_readCheese_82 rfl ?_
                  obtain ⟨v291, c292⟩ : ∃ v, I212 a23 7 = v := ⟨_, rfl⟩
                  refine q_getI dX7_readCheese_83 fl7_240 (kR2 hS213.1 ta23) c292 ?_
                  refine q_iconst dX7_readCheese_86 (by decide) ?_
                  intro v293 h294
                  refine tr_iload_n dX7_readCheese_87 rfl ?_
                  refine q_ishl dX7_readCheese_88 ?_
                  intro v295
                  refine q_ior dX7_readCheese_89 ?_
                  intro v296
                  refine q_putI dX7_readCheese_90 fl7_240 (kR2 hS213.1 ta23) (Or.inl rfl) hS213 ta23 (iokF rfl) rfl (by decide +kernel) ?_
                  intro I297 hS298 e299 f300
                  have c301 : I297 a23 5 = v29 := (f300 _ _ (fun q => absurd q.2 (by decide))).trans c216
                  have c302 : I297 a0 15 = v191 := (f300 _ _ (fun q => absurd q.2 (by decide))).trans c217
                  have c303 : I297 a0 7 = v193 := (f300 _ _ (fun q => by have z := ta0; rw [q.1, ta23] at z; exact absurd z (by decide))).trans c218
                  have c304 : I297 a0 2 = v196 := (f300 _ _ (fun q => absurd q.2 (by decide))).trans c219
                  have c305 : I297 a0 4 = v199 := (f300 _ _ (fun q => absurd q.2 (by decide))).trans c220
                  have c306 : I297 a0 3 = v202 := (f300 _ _ (fun q => absurd q.2 (by decide))).trans c221
                  have c307 : I297 a0 6 = v207 := (f300 _ _ (fun q => absurd q.2 (by decide))).trans c222
                  have hO308 : FrO 2 a23 T I0 I297 := hO223.put f300 ta23 (Or.inr rfl)
                  refine tr_aload_n dX7_readCheese_93 rfl ?_
                  refine tr_getR dX7_readCheese_94 fl7_22 (kR7 hS298.1 ta0) d24 ?_
                  refine tr_dup dX7_readCheese_97 rfl ?_
                  refine q_getI dX7_readCheese_98 fl7_61 (kR2 hS298.1 ta23) c301 ?_
                  refine q_iconst dX7_readCheese_101 (by decide) ?_
                  intro v309 h310
                  refine q_iaddE dX7_readCheese_102 (by intro j1 j2 j3 j4; exact om_ea1db01a pre9 b31.2 b31.1 p32 h310) ?_
                  intro v311 h312
                  refine q_putI dX7_readCheese_103 fl7_61 (kR2 hS298.1 ta23) (Or.inl rfl) hS298 ta23 (by show (0 : Int) ≤ v311.toInt ∧ v311.toInt ≤ (8 : Int); exact om_7c38f977 pre9 b31.2 b31.1 p32 h310 h312) rfl (by decide +kernel) ?_
                  intro I313 hS314 e315 f316
                  have c317 : I313 a0 15 = v191 := (f316 _ _ (fun q => absurd q.2 (by decide))).trans c302
                  have c318 : I313 a0 7 = v193 := (f316 _ _ (fun q => absurd q.2 (by decide))).trans c303
                  have c319 : I313 a0 2 = v196 := (f316 _ _ (fun q => absurd q.2 (by decide))).trans c304
                  have c320 : I313 a0 4 = v199 := (f316 _ _ (fun q => absurd q.2 (by decide))).trans c305
                  have c321 : I313 a0 3 = v202 := (f316 _ _ (fun q => absurd q.2 (by decide))).trans c306
                  have c322 : I313 a0 6 = v207 := (f316 _ _ (fun q => absurd q.2 (by decide))).trans c307
                  have c323 : I313 a23 7 = v296 := (f316 _ _ (fun q => absurd q.2 (by decide))).trans e299
                  have hO324 : FrO 2 a23 T I0 I313 := hO308.put f316 ta23 (Or.inr rfl)
                  refine q_iconst dX7_readCheese_106 (by decide) ?_
                  intro v325 h326
                  have eF := hF.eq
                  have eP := hP.eq
                  have es327 : chS gB gQ gs = (tkN gB (tkN gB (tkN gB gs))) := by exact om_1f10ef37 p236
                  obtain ⟨v328, c329⟩ : ∃ v, I313 a0 16 = v := ⟨_, rfl⟩
                  exact tr_zret hZ dX7_readCheese_107 rfl (ti_b01 (by exact om_f9079521 h326) (by exact om_e6632817 h326)) (by decide) (by decide) ⟨v325, rfl, rfl, rfl, rfl, rfl, hS314, hL168, (by exact om_d753bc65 h326), (fun dr hd => (Option.some.inj (d24.symm.trans hd)) ▸ hO324), (Or.inl ⟨(by (try rw [es327]); first | done | with_reducible assumption | omega), (by (try rw [es327]); (try rw [c317]); (try rw [c40]); first | done | with_reducible assumption | exact om_1c22ab7e p57 p129 p172), (by (try rw [es327]); first | done | with_reducible assumption | omega), (fun q0 z0 => by obtain rfl := Option.some.inj ((d24).symm.trans z0); (try rw [es327]); (try rw [e315]); first | done | with_reducible assumption | exact om_58c7f992 p32 h310 h312), (by (try rw [es327]); (try rw [c319]); first | done | with_reducible assumption | omega), (by (try rw [es327]); (try rw [c320]); first | done | with_reducible assumption | omega), (by (try rw [es327]); (try rw [c321]); first | done | with_reducible assumption | omega), (by (try rw [es327]); (try rw [c206]); first | done | assumption), (by (try rw [es327]); (try rw [c322]); first | done | assumption), (NmC.up3 hN170 d75 (by rw [c169]; exact om_acd7a85a p76) (by have q := ti_nat (i := v29) (by exact om_b2fb2c72 pre9 b31.2 b31.1 p32 h310 h312); exact om_24c30391 p32 h310 h312 q) (by exact om_7ca80ae8 pre9 b31.2 b31.1 p32 h310 h312) (by exact om_8bcc88d8 p38)), trivial⟩), trivial⟩
                · skip
                  exfalso; exact om_3a97d4a5 p235 h290
            · skip
              exfalso; exact om_3624102b p171 h209
          · skip
            obtain ⟨v330, c331⟩ : ∃ v, I157 a0 15 = v := ⟨_, rfl⟩
            rw [c331] at p184
            obtain ⟨v332, c333⟩ : ∃ v, I157 a0 16 = v := ⟨_, rfl⟩
            rw [c333] at p185
            replace hF := hF.pos (by exact om_73cc8e29 p183)
            replace hP := hP.pos (by exact om_73cc8e29 p183)
            refine q_if_ne 49 dX7_readCheese_44 (by decide) (fun h334 => ?_) (fun h334 => ?_)
            · skip
              exfalso; exact om_3a97d4a5 p182 h334
            · skip
              refine q_iconst dX7_readCheese_47 (by decide) ?_
              intro v335 h336
              have eF := hF.eq
              have eP := hP.eq
              obtain ⟨v337, c338⟩ : ∃ v, I157 a0 2 = v := ⟨_, rfl⟩
              have b339 := iv7_2 hS165.1 ta0 c338
              obtain ⟨v340, c341⟩ : ∃ v, I157 a0 4 = v := ⟨_, rfl⟩
              have b342 := iv7_4 hS165.1 ta0 c341
              obtain ⟨v343, c344⟩ : ∃ v, I157 a0 3 = v := ⟨_, rfl⟩
              have b345 := iv7_3 hS165.1 ta0 c344
              obtain ⟨y346, c347⟩ : ∃ v, L159 a0 5 = v := ⟨_, rfl⟩
              obtain ⟨v348, c349⟩ : ∃ v, I157 a0 6 = v := ⟨_, rfl⟩
              exact tr_zret hZ dX7_readCheese_48 rfl (ti_b01 (by exact om_d99fa9e4 h336) (by exact om_d3de7ec9 h336)) (by decide) (by decide) ⟨v335, rfl, rfl, rfl, rfl, rfl, hS165, hL168, (by exact om_3b50ecb9 h336), (fun dr hd => (Option.some.inj (d24.symm.trans hd)) ▸ hO167), (Or.inr (⟨(by first | done | with_reducible assumption | omega), (by first | done | with_reducible assumption | exact om_7fac24c5 eF), (by (try rw [c331]); first | done | with_reducible assumption | exact om_3345b898 p184 eF), (by (try rw [c333]); first | done | with_reducible assumption | exact om_2757374c p185 eP), trivial⟩)), trivial⟩
          · skip
            obtain ⟨v350, c351⟩ : ∃ v, I157 a0 15 = v := ⟨_, rfl⟩
            rw [c351] at p189
            obtain ⟨v352, c353⟩ : ∃ v, I157 a0 16 = v := ⟨_, rfl⟩
            rw [c353] at p190
            replace hF := hF.neg (by exact om_10ed11b5 p187)
            replace hP := hP.neg (by exact om_10ed11b5 p187)
            replace hF := hF.pos (by exact om_1be6d535 p188)
            replace hP := hP.pos (by exact om_1be6d535 p188)
            refine q_if_ne 49 dX7_readCheese_44 (by decide) (fun h354 => ?_) (fun h354 => ?_)
            · skip
              exfalso; exact om_3a97d4a5 p186 h354
            · skip
              refine q_iconst dX7_readCheese_47 (by decide) ?_
              intro v355 h356
              have eF := hF.eq
              have eP := hP.eq
              obtain ⟨v357, c358⟩ : ∃ v, I157 a0 2 = v := ⟨_, rfl⟩
              have b359 := iv7_2 hS165.1 ta0 c358
              obtain ⟨v360, c361⟩ : ∃ v, I157 a0 4 = v := ⟨_, rfl⟩
              have b362 := iv7_4 hS165.1 ta0 c361
              obtain ⟨v363, c364⟩ : ∃ v, I157 a0 3 = v := ⟨_, rfl⟩
              have b365 := iv7_3 hS165.1 ta0 c364
              obtain ⟨y366, c367⟩ : ∃ v, L159 a0 5 = v := ⟨_, rfl⟩
              obtain ⟨v368, c369⟩ : ∃ v, I157 a0 6 = v := ⟨_, rfl⟩
              exact tr_zret hZ dX7_readCheese_48 rfl (ti_b01 (by exact om_d99fa9e4 h356) (by exact om_d3de7ec9 h356)) (by decide) (by decide) ⟨v355, rfl, rfl, rfl, rfl, rfl, hS165, hL168, (by exact om_3b50ecb9 h356), (fun dr hd => (Option.some.inj (d24.symm.trans hd)) ▸ hO167), (Or.inr (⟨(by first | done | with_reducible assumption | omega), (by first | done | with_reducible assumption | exact om_7b84bd42 eF), (by (try rw [c351]); first | done | with_reducible assumption | exact om_46d5da87 p189 eF), (by (try rw [c353]); first | done | with_reducible assumption | exact om_2757374c p190 eP), trivial⟩)), trivial⟩
      · skip
        obtain ⟨v370, c371⟩ : ∃ v, I114 a0 15 = v := ⟨_, rfl⟩
        rw [c371] at p139
        obtain ⟨v372, c373⟩ : ∃ v, I114 a0 16 = v := ⟨_, rfl⟩
        rw [c373] at p140
        replace hF := hF.pos (by exact om_88932fbe p138)
        replace hP := hP.pos (by exact om_88932fbe p138)
        refine q_if_eq 47 dX7_readCheese_37 (by decide) (fun h374 => ?_) (fun h374 => ?_)
        · skip
          refine q_iconst dX7_readCheese_47 (by decide) ?_
          intro v375 h376
          have eF := hF.eq
          have eP := hP.eq
          obtain ⟨v377, c378⟩ : ∃ v, I114 a0 2 = v := ⟨_, rfl⟩
          have b379 := iv7_2 hS122.1 ta0 c378
          obtain ⟨v380, c381⟩ : ∃ v, I114 a0 4 = v := ⟨_, rfl⟩
          have b382 := iv7_4 hS122.1 ta0 c381
          obtain ⟨v383, c384⟩ : ∃ v, I114 a0 3 = v := ⟨_, rfl⟩
          have b385 := iv7_3 hS122.1 ta0 c384
          obtain ⟨y386, c387⟩ : ∃ v, L116 a0 5 = v := ⟨_, rfl⟩
          obtain ⟨v388, c389⟩ : ∃ v, I114 a0 6 = v := ⟨_, rfl⟩
          exact tr_zret hZ dX7_readCheese_48 rfl (ti_b01 (by exact om_d99fa9e4 h376) (by exact om_d3de7ec9 h376)) (by decide) (by decide) ⟨v375, rfl, rfl, rfl, rfl, rfl, hS122, hL125, (by exact om_3b50ecb9 h376), (fun dr hd => (Option.some.inj (d24.symm.trans hd)) ▸ hO124), (Or.inr (⟨(by first | done | with_reducible assumption | omega), (by first | done | with_reducible assumption | exact om_7fac24c5 eF), (by (try rw [c371]); first | done | with_reducible assumption | exact om_3345b898 p139 eF), (by (try rw [c373]); first | done | with_reducible assumption | exact om_2757374c p140 eP), trivial⟩)), trivial⟩
        · skip
          exfalso; exact om_3a97d4a5 p137 h374
    · skip
      exfalso; exact om_3624102b p56 h73
  · skip
    obtain ⟨v390, c391⟩ : ∃ v, I41 a0 15 = v := ⟨_, rfl⟩
    rw [c391] at p64
    obtain ⟨v392, c393⟩ : ∃ v, I41 a0 16 = v := ⟨_, rfl⟩
    rw [c393] at p65
    replace hF := hF.pos (by exact om_ea380f8a p63)
    replace hP := hP.pos (by exact om_ea380f8a p63)
    refine q_if_ne 9 dX7_readCheese_4 (by decide) (fun h394 => ?_) (fun h394 => ?_)
    · skip
      exfalso; exact om_3a97d4a5 p62 h394
    · skip
      refine q_iconst dX7_readCheese_7 (by decide) ?_
      intro v395 h396
      have eF := hF.eq
      have eP := hP.eq
      exact tr_zret hZ dX7_readCheese_8 rfl (ti_b01 (by exact om_d99fa9e4 h396) (by exact om_d3de7ec9 h396)) (by decide) (by decide) ⟨v395, rfl, rfl, rfl, rfl, rfl, hS49, hL0, (by exact om_3b50ecb9 h396), (fun dr hd => (Option.some.inj (d24.symm.trans hd)) ▸ hO55), (Or.inr (⟨(by first | done | with_reducible assumption | omega), (by first | done | with_reducible assumption | exact om_7fac24c5 eF), (by (try rw [c391]); first | done | with_reducible assumption | exact om_3345b898 p64 eF), (by (try rw [c393]); first | done | with_reducible assumption | exact om_86fa3162 p8 p65 eP), trivial⟩)), trivial⟩
  · skip
    obtain ⟨v397, c398⟩ : ∃ v, I41 a0 15 = v := ⟨_, rfl⟩
    rw [c398] at p69
    obtain ⟨v399, c400⟩ : ∃ v, I41 a0 16 = v := ⟨_, rfl⟩
    rw [c400] at p70
    replace hF := hF.neg (by exact om_e4d065d5 p67)
    replace hP := hP.neg (by exact om_e4d065d5 p67)
    replace hF := hF.pos (by exact om_1b2eae89 p68)
    replace hP := hP.pos (by exact om_1b2eae89 p68)
    refine q_if_ne 9 dX7_readCheese_4 (by decide) (fun h401 => ?_) (fun h401 => ?_)
    · skip
      exfalso; exact om_3a97d4a5 p66 h401
    · skip
      refine q_iconst dX7_readCheese_7 (by decide) ?_
      intro v402 h403
      have eF := hF.eq
      have eP := hP.eq
      exact tr_zret hZ dX7_readCheese_8 rfl (ti_b01 (by exact om_d99fa9e4 h403) (by exact om_d3de7ec9 h403)) (by decide) (by decide) ⟨v402, rfl, rfl, rfl, rfl, rfl, hS49, hL0, (by exact om_3b50ecb9 h403), (fun dr hd => (Option.some.inj (d24.symm.trans hd)) ▸ hO55), (Or.inr (⟨(by first | done | with_reducible assumption | omega), (by first | done | with_reducible assumption | exact om_c731b21c eF), (by (try rw [c398]); first | done | with_reducible assumption | exact om_4684038f p69 eF), (by (try rw [c400]); first | done | with_reducible assumption | exact om_86fa3162 p8 p70 eP), trivial⟩)), trivial⟩
def wik_X7_readCall : List Nat := [139, 320, 321, 322, 323, 450, 451, 452, 454, 455, 463, 464]
def wrk_X7_readCall : List Nat := []
def wlk_X7_readCall : List Nat := [453]
set_option maxHeartbeats 4000000 in
theorem fk_X7_readCall {l : Launch} {T : Nat → Nat} {cn : Nat} {K N : Nat → Nat} {I0 : cz_I} {R0 : cz_R} {L0 : cz_L} {d : Int} (hW0 : Wf T cn K N I0 R0 d) (gB : cz_B) (gs : Int) (gQ : Nat → Int) {a0 : Nat} (ta0 : T a0 = 7) (hT : ∀ t, R0 a0 0 = some t → Tx I0 t gB) (hN : NmC L0 R0 a0 gQ) (pre0 : (I0 a0 2).toInt = (tkN gB gs)) (pre1 : (I0 a0 4).toInt = (tkS gB gs)) (pre2 : (I0 a0 3).toInt = (tkK gB gs)) (pre3 : (AtW ((tkK gB gs)) ((L0 a0 5).toInt) ((tkW gB gs)))) (pre4 : (AtV ((tkK gB gs)) ((I0 a0 6).toInt) ((tkV gB gs)))) (pre5 : (I0 a0 1).toInt = (gB.2)) (pre6 : ∀ b1, R0 a0 10 = some b1 → (I0 b1 0).toInt = (gQ 0)) (pre7 : ∀ b1, R0 a0 10 = some b1 → (I0 b1 9).toInt = (gQ 4)) (pre8 : ∀ b1, R0 a0 10 = some b1 → (I0 b1 11).toInt = (gQ 5)) (pre9 : (gQ 5) ≤ 5) : ConE l mX7_readCall [.ref a0] cn K N I0 R0 L0 (ca_i (fun v cn' K' N' I' R' L' => cn = cn' ∧ K = K' ∧ N = N' ∧ R0 = R' ∧ St T cn K N d wik_X7_readCall wrk_X7_readCall I0 R0 I' R0 ∧ LgS T wlk_X7_readCall L0 L' ∧ (0 ≤ v.toInt ∧ v.toInt ≤ 1) ∧ (∀ dr, R0 a0 10 = some dr → FrO 2 dr T I0 I') ∧ (((v.toInt = 1) ∧ ((I' a0 15).toInt = (I0 a0 15).toInt) ∧ ((caF gB gQ gs) = 0) ∧ (∀ b1, R0 a0 10 = some b1 → (I' b1 11).toInt = (gQ 5) + 1) ∧ ((I' a0 2).toInt = (tkN gB (tkN gB (tkN gB (tkN gB (tkN gB (tkN gB (tkN gB (tkN gB gs))))))))) ∧ ((I' a0 4).toInt = (tkS gB (tkN gB (tkN gB (tkN gB (tkN gB (tkN gB (tkN gB (tkN gB gs))))))))) ∧ ((I' a0 3).toInt = (tkK gB (tkN gB (tkN gB (tkN gB (tkN gB (tkN gB (tkN gB (tkN gB gs))))))))) ∧ ((AtW ((tkK gB (tkN gB (tkN gB (tkN gB (tkN gB (tkN gB (tkN gB (tkN gB gs))))))))) ((L' a0 5).toInt) ((tkW gB (tkN gB (tkN gB (tkN gB (tkN gB (tkN gB (tkN gB (tkN gB gs))))))))))) ∧ ((AtV ((tkK gB (tkN gB (tkN gB (tkN gB (tkN gB (tkN gB (tkN gB (tkN gB gs))))))))) ((I' a0 6).toInt) ((tkV gB (tkN gB (tkN gB (tkN gB (tkN gB (tkN gB (tkN gB (tkN gB gs))))))))))) ∧ True) ∨ ((v.toInt = 0) ∧ ((caF gB gQ gs) ≠ 0) ∧ ((I' a0 15).toInt = (caF gB gQ gs)) ∧ ((I' a0 16).toInt = (caP gB gQ gs)) ∧ True)) ∧ True)) := by
  refine ConE.of (by decide +kernel) rfl (Nat.le_of_ble_eq_true rfl) rfl (fun X hX hZ hE => ?_)
  subst hX
  have hS0 : St T cn K N d wik_X7_readCall wrk_X7_readCall I0 R0 I0 R0 := St.rf0 hW0
  have hL0 : LgS T wlk_X7_readCall L0 L0 := LgS.rf0
  obtain ⟨v1, c2⟩ : ∃ v, I0 a0 2 = v := ⟨_, rfl⟩
  have b3 := iv7_2 hS0.1 ta0 c2
  have p4 := pre0
  rw [c2] at p4
  obtain ⟨v5, c6⟩ : ∃ v, I0 a0 4 = v := ⟨_, rfl⟩
  have b7 := iv7_4 hS0.1 ta0 c6
  have p8 := pre1
  rw [c6] at p8
  obtain ⟨v9, c10⟩ : ∃ v, I0 a0 3 = v := ⟨_, rfl⟩
  have b11 := iv7_3 hS0.1 ta0 c10
  have p12 := pre2
  rw [c10] at p12
  obtain ⟨y13, c14⟩ : ∃ v, L0 a0 5 = v := ⟨_, rfl⟩
  have p15 := pre3
  rw [c14] at p15
  obtain ⟨v16, c17⟩ : ∃ v, I0 a0 6 = v := ⟨_, rfl⟩
  have p18 := pre4
  rw [c17] at p18
  obtain ⟨v19, c20⟩ : ∃ v, I0 a0 1 = v := ⟨_, rfl⟩
  have b21 := iv7_1 hW0 ta0 c20
  have p22 := pre5
  rw [c20] at p22
  obtain ⟨a23, d24, ta23⟩ := rf7_10 hW0 ta0
  obtain ⟨v25, c26⟩ : ∃ v, I0 a23 0 = v := ⟨_, rfl⟩
  have b27 := iv2_0 hW0 ta23 c26
  have p28 := pre6 _ d24
  rw [c26] at p28
  obtain ⟨v29, c30⟩ : ∃ v, I0 a23 9 = v := ⟨_, rfl⟩
  have b31 := iv2_9 hW0 ta23 c30
  have p32 := pre7 _ d24
  rw [c30] at p32
  obtain ⟨v33, c34⟩ : ∃ v, I0 a23 11 = v := ⟨_, rfl⟩
  have b35 := iv2_11 hS0.1 ta23 c34
  have p36 := pre8 _ d24
  rw [c34] at p36
  have p37 := pre9
  obtain ⟨v38, c39⟩ : ∃ v, I0 a0 15 = v := ⟨_, rfl⟩
  have hO0 : FrO 2 a23 T I0 I0 := FrO.rf
  have hF := caF_ch gB gQ gs
  have hP := caP_ch gB gQ gs
  refine tr_aload_n dX7_readCall_0 rfl ?_
  refine q_callVi hE (M' := mX7_seesName) (as := []) dX7_readCall_1 lk7_279 inX7_seesName seX7_seesName myX7_seesName (by decide) ⟨by decide, by decide⟩ rfl (kR7 hS0.1 ta0) (Nat.le_of_ble_eq_true rfl) rfl rfl (by decide) (by decide) (fk_X7_seesName hS0.1 (gB) (gs) ta0 (by (try rw [c10]); first | done | with_reducible assumption | omega) (by (try rw [c14]); first | done | assumption)) ?_
  rintro v45 cn' K' N' I40 R41 L42 ⟨rfl, rfl, rfl, rfl, rfl, rfl, h46, dj47, -⟩
  rcases dj47 with ⟨p48, p49, p50, -⟩ | ⟨p51, p52, -⟩
  · skip
    replace hF := hF.neg (by exact om_e4d065d5 p49)
    replace hP := hP.neg (by exact om_e4d065d5 p49)
    refine q_if_ne 13 dX7_readCall_4 (by decide) (fun h53 => ?_) (fun h53 => ?_)
    · skip
      refine tr_aload_n dX7_readCall_13 rfl ?_
      have p54 := p15 (by exact om_ee8a1e2d p50)
      refine q_callVi hE (M' := mX7_namedTurner) (as := []) dX7_readCall_14 lk7_282 inX7_namedTurner seX7_namedTurner myX7_namedTurner (by decide) ⟨by decide, by decide⟩ rfl (kR7 hS0.1 ta0) (Nat.le_of_ble_eq_true rfl) rfl rfl (by decide) (by decide) (fk_X7_namedTurner hS0.1 ((tkW gB gs)) (gQ) ta0 hN (by (try rw [c14]); first | done | with_reducible assumption | omega) (fun q0 z0 => by obtain rfl := Option.some.inj ((d24).symm.trans z0); (try rw [c30]); first | done | with_reducible assumption | omega)) ?_
      rintro v60 cn' K' N' I55 R56 L57 ⟨rfl, rfl, rfl, rfl, rfl, rfl, h61, p62, -⟩
      refine tr_istore_n dX7_readCall_17 (by decide) (by decide) ?_
      refine tr_iload_n dX7_readCall_18 rfl ?_
      refine q_iconst dX7_readCall_19 (by decide) ?_
      intro v63 h64
      refine q_icmp_ne 29 dX7_readCall_20 (by decide) (fun h65 => ?_) (fun h65 => ?_)
      · skip
        replace hF := hF.neg (by exact om_81608096 p62 h64 h65)
        replace hP := hP.neg (by exact om_81608096 p62 h64 h65)
        refine tr_aload_n dX7_readCall_29 rfl ?_
        refine q_callVv hE (M' := mX7_step) (as := []) dX7_readCall_30 lk7_51 inX7_step seX7_step myX7_step (by decide) ⟨by decide, by decide⟩ rfl (kR7 hS0.1 ta0) (Nat.le_of_ble_eq_true rfl) rfl rfl (by decide) (by decide) (fk_X7_step hS0.1 (gB) ((tkN gB gs)) ta0 (TxA.kp hT hS0 ta0 rfl rfl rfl (by decide +kernel) (by decide +kernel)) (by (try rw [c2]); first | done | with_reducible assumption | omega) (by (try rw [c20]); first | done | with_reducible assumption | omega)) ?_
        rintro cn' K' N' I66 R67 L68 ⟨rfl, rfl, rfl, rfl, g69, gl70, p72, p73, p74, p75, p76, -⟩
        have hS77 := hS0.tr g69 (by decide +kernel) (by decide +kernel)
        have c78 : I66 a23 11 = v33 := (g69.cell ta23 (by decide +kernel)).trans c34
        have c79 : I66 a0 15 = v38 := (g69.cell ta0 (by decide +kernel)).trans c39
        have hO80 : FrO 2 a23 T I0 I66 := hO0.st g69 (by decide +kernel)
        have hL81 := hL0.tr gl70 (by decide +kernel)
        have hN82 : NmC L68 R0 a0 gQ := NmC.kp hN gl70 hS77.1 ta0 (by decide +kernel) (by decide +kernel)
        obtain ⟨v83, c84⟩ : ∃ v, I66 a0 2 = v := ⟨_, rfl⟩
        have b85 := iv7_2 hS77.1 ta0 c84
        rw [c84] at p72
        obtain ⟨v86, c87⟩ : ∃ v, I66 a0 4 = v := ⟨_, rfl⟩
        have b88 := iv7_4 hS77.1 ta0 c87
        rw [c87] at p73
        obtain ⟨v89, c90⟩ : ∃ v, I66 a0 3 = v := ⟨_, rfl⟩
        have b91 := iv7_3 hS77.1 ta0 c90
        rw [c90] at p74
        obtain ⟨y92, c93⟩ : ∃ v, L68 a0 5 = v := ⟨_, rfl⟩
        rw [c93] at p75
        obtain ⟨v94, c95⟩ : ∃ v, I66 a0 6 = v := ⟨_, rfl⟩
        rw [c95] at p76
        refine tr_aload_n dX7_readCall_33 rfl ?_
        refine tr_getR dX7_readCall_34 fl7_22 (kR7 hS77.1 ta0) d24 ?_
        obtain ⟨a96, d97, ta96⟩ := rf2_12 hW0 ta23
        refine tr_getR dX7_readCall_37 fl7_285 (kR2 hS77.1 ta23) d97 ?_
        refine tr_aload_n dX7_readCall_40 rfl ?_
        refine tr_getR dX7_readCall_41 fl7_22 (kR7 hS77.1 ta0) d24 ?_
        refine q_getI dX7_readCall_44 fl7_159 (kR2 hS77.1 ta23) c78 ?_
        obtain ⟨a98, d99, ta98⟩ := rf22 hS77.1 ta96 (j := v33.toNatClampNeg) (ti_lt (by exact om_f68eade3 pre9 b35.2 b35.1 p36) (by exact om_967dd5b3 pre9 b35.2 b35.1 p36))
        refine tr_aald dX7_readCall_47 (kR22 hS77.1 ta96) (by decide) (by decide) (ti_in (nR22 hS77.1 ta96) (by exact om_f68eade3 pre9 b35.2 b35.1 p36) (by exact om_967dd5b3 pre9 b35.2 b35.1 p36)) d99 ?_
        refine tr_astore_n dX7_readCall_48 (by decide) (by decide) ?_
        refine tr_aload_n dX7_readCall_49 rfl ?_
        refine tr_iload_n dX7_readCall_50 rfl ?_
        refine q_putI dX7_readCall_51 fl7_289 (kR5 hS77.1 ta98) (Or.inl rfl) hS77 ta98 (iokF rfl) rfl (by decide +kernel) ?_
        intro I100 hS101 e102 f103
        have c104 : I100 a23 11 = v33 := (f103 _ _ (fun q => absurd q.2 (by decide))).trans c78
        have c105 : I100 a0 15 = v38 := (f103 _ _ (fun q => absurd q.2 (by decide))).trans c79
        have c106 : I100 a0 2 = v83 := (f103 _ _ (fun q => absurd q.2 (by decide))).trans c84
        have c107 : I100 a0 4 = v86 := (f103 _ _ (fun q => absurd q.2 (by decide))).trans c87
        have c108 : I100 a0 3 = v89 := (f103 _ _ (fun q => absurd q.2 (by decide))).trans c90
        have c109 : I100 a0 6 = v94 := (f103 _ _ (fun q => absurd q.2 (by decide))).trans c95
        have hO110 : FrO 2 a23 T I0 I100 := hO80.put f103 ta98 (Or.inl (by decide))
        refine tr_aload_n dX7_readCall_54 rfl ?_
        refine tr_ldcwS dX7_readCall_55 ld7_293 ?_
        refine q_callVi hE (M' := mX7_takeWord) (as := [_]) dX7_readCall_58 lk7_126 inX7_takeWord seX7_takeWord myX7_takeWord (by decide) ⟨by decide, by decide⟩ rfl (kR7 hS101.1 ta0) (Nat.le_of_ble_eq_true rfl) rfl rfl (by decide) (by decide) (fk_X7_takeWord hS101.1 (gB) ((tkN gB gs)) ta0 (by decide) (TxA.kp hT hS101 ta0 rfl rfl rfl (by decide +kernel) (by decide +kernel)) (by (try rw [c106]); first | done | with_reducible assumption | omega) (by (try rw [c107]); first | done | with_reducible assumption | omega) (by (try rw [c108]); first | done | with_reducible assumption | omega) (by (try rw [c93]); first | done | assumption) (by (try rw [c109]); first | done | assumption) (by (try rw [((hS101.cell ta0 (by decide +kernel)).trans c20)]); first | done | with_reducible assumption | omega)) ?_
        rintro v116 cn' K' N' I111 R112 L113 ⟨rfl, rfl, rfl, rfl, g114, gl115, h117, dj118, -⟩
        (try rw [pk_2] at dj118)
        have hS119 := hS101.tr g114 (by decide +kernel) (by decide +kernel)
        have c120 : I111 a23 11 = v33 := (g114.cell ta23 (by decide +kernel)).trans c104
        have c121 : I111 a98 0 = v60 := (g114.cell ta98 (by decide +kernel)).trans e102
        have hO122 : FrO 2 a23 T I0 I111 := hO110.st g114 (by decide +kernel)
        have hL123 := hL81.tr gl115 (by decide +kernel)
        have hN124 : NmC L113 R0 a0 gQ := NmC.kp hN82 gl115 hS119.1 ta0 (by decide +kernel) (by decide +kernel)
        rcases dj118 with ⟨p125, p126, p127, p128, p129, p130, p131, p132, p133, -⟩ | ⟨p134, p135, p136, p137, -⟩
        · skip
          obtain ⟨v138, c139⟩ : ∃ v, I111 a0 15 = v := ⟨_, rfl⟩
          rw [c139] at p126
          rw [c105] at p126
          obtain ⟨v140, c141⟩ : ∃ v, I111 a0 2 = v := ⟨_, rfl⟩
          have b142 := iv7_2 hS119.1 ta0 c141
          rw [c141] at p129
          obtain ⟨v143, c144⟩ : ∃ v, I111 a0 4 = v := ⟨_, rfl⟩
          have b145 := iv7_4 hS119.1 ta0 c144
          rw [c144] at p130
          obtain ⟨v146, c147⟩ : ∃ v, I111 a0 3 = v := ⟨_, rfl⟩
          have b148 := iv7_3 hS119.1 ta0 c147
          rw [c147] at p131
          obtain ⟨y149, c150⟩ : ∃ v, L113 a0 5 = v := ⟨_, rfl⟩
          rw [c150] at p132
          obtain ⟨v151, c152⟩ : ∃ v, I111 a0 6 = v := ⟨_, rfl⟩
          rw [c152] at p133
          replace hF := hF.neg (by exact om_04eb041f p127 p128)
          replace hP := hP.neg (by exact om_04eb041f p127 p128)
          refine q_if_eq 81 dX7_readCall_61 (by decide) (fun h153 => ?_) (fun h153 => ?_)
          · skip
            exfalso; exact om_3624102b p125 h153
          · skip
            refine tr_aload_n dX7_readCall_64 rfl ?_
            refine q_iconst dX7_readCall_65 (by decide) ?_
            intro v154 h155
            refine tr_aload_n dX7_readCall_66 rfl ?_
            refine tr_getR dX7_readCall_67 fl7_22 (kR7 hS119.1 ta0) d24 ?_
            refine q_getI dX7_readCall_70 fl7_118 (kR2 hS119.1 ta23) ((hS119.cell ta23 (by decide +kernel)).trans c26) ?_
            refine q_iconst dX7_readCall_73 (by decide) ?_
            intro v156 h157
            refine q_isubE dX7_readCall_74 (by intro j1 j2 j3 j4; exact om_37812ee5 b27.2 b27.1 p28 h157) ?_
            intro v158 h159
            refine q_callVi hE (M' := mX7_takeWhole) (as := [_, _]) dX7_readCall_75 lk7_115 inX7_takeWhole seX7_takeWhole myX7_takeWhole (by decide) ⟨by decide, by decide⟩ rfl (kR7 hS119.1 ta0) (Nat.le_of_ble_eq_true rfl) rfl rfl (by decide) (by decide) (fk_X7_takeWhole hS119.1 (gB) ((tkN gB (tkN gB gs))) ta0 (by exact om_9ed8f7f4 h155) (by exact om_fc024398 b27.2 b27.1 p28 h157 h159) (TxA.kp hT hS119 ta0 rfl rfl rfl (by decide +kernel) (by decide +kernel)) (by (try rw [c141]); first | done | with_reducible assumption | omega) (by (try rw [c144]); first | done | with_reducible assumption | omega) (by (try rw [c147]); first | done | with_reducible assumption | omega) (by (try rw [c150]); first | done | assumption) (by (try rw [c152]); first | done | assumption) (by (try rw [((hS119.cell ta0 (by decide +kernel)).trans c20)]); first | done | with_reducible assumption | omega)) ?_
            rintro v165 cn' K' N' I160 R161 L162 ⟨rfl, rfl, rfl, rfl, g163, gl164, h166, dj167, -⟩
            have hS168 := hS119.tr g163 (by decide +kernel) (by decide +kernel)
            have c169 : I160 a23 11 = v33 := (g163.cell ta23 (by decide +kernel)).trans c120
            have c170 : I160 a98 0 = v60 := (g163.cell ta98 (by decide +kernel)).trans c121
            have hO171 : FrO 2 a23 T I0 I160 := hO122.st g163 (by decide +kernel)
            have hL172 := hL123.tr gl164 (by decide +kernel)
            have hN173 : NmC L162 R0 a0 gQ := NmC.kp hN124 gl164 hS168.1 ta0 (by decide +kernel) (by decide +kernel)
            rcases dj167 with ⟨p174, p175, p176, p177, p178, p179, p180, p181, p182, p183, p184, -⟩ | ⟨p185, p186, p187, p188, -⟩ | ⟨p189, p190, p191, p192, p193, -⟩
            · skip
              obtain ⟨v194, c195⟩ : ∃ v, I160 a0 15 = v := ⟨_, rfl⟩
              rw [c195] at p175
              rw [c139] at p175
              obtain ⟨v196, c197⟩ : ∃ v, I160 a0 7 = v := ⟨_, rfl⟩
              have b198 := iv7_7 hS168.1 ta0 c197
              rw [c197] at p179
              obtain ⟨v199, c200⟩ : ∃ v, I160 a0 2 = v := ⟨_, rfl⟩
              have b201 := iv7_2 hS168.1 ta0 c200
              rw [c200] at p180
              obtain ⟨v202, c203⟩ : ∃ v, I160 a0 4 = v := ⟨_, rfl⟩
              have b204 := iv7_4 hS168.1 ta0 c203
              rw [c203] at p181
              obtain ⟨v205, c206⟩ : ∃ v, I160 a0 3 = v := ⟨_, rfl⟩
              have b207 := iv7_3 hS168.1 ta0 c206
              rw [c206] at p182
              obtain ⟨y208, c209⟩ : ∃ v, L162 a0 5 = v := ⟨_, rfl⟩
              rw [c209] at p183
              obtain ⟨v210, c211⟩ : ∃ v, I160 a0 6 = v := ⟨_, rfl⟩
              rw [c211] at p184
              replace hF := hF.neg (by exact om_10ed11b5 p176)
              replace hP := hP.neg (by exact om_10ed11b5 p176)
              replace hF := hF.neg (by exact om_c8c41460 p28 h155 h157 h159 p177 p178 p179 b198.2)
              replace hP := hP.neg (by exact om_c8c41460 p28 h155 h157 h159 p177 p178 p179 b198.2)
              refine q_if_ne 83 dX7_readCall_78 (by decide) (fun h212 => ?_) (fun h212 => ?_)
              · skip
                refine tr_aload_n dX7_readCall_83 rfl ?_
                refine tr_aload_n dX7_readCall_84 rfl ?_
                refine q_getI dX7_readCall_85 fl7_109 (kR7 hS168.1 ta0) c197 ?_
                refine q_putI dX7_readCall_88 fl7_295 (kR5 hS168.1 ta98) (Or.inl rfl) hS168 ta98 (iokF rfl) rfl (by decide +kernel) ?_
                intro I213 hS214 e215 f216
                have c217 : I213 a23 11 = v33 := (f216 _ _ (fun q => absurd q.2 (by decide))).trans c169
                have c218 : I213 a98 0 = v60 := (f216 _ _ (fun q => absurd q.2 (by decide))).trans c170
                have c219 : I213 a0 15 = v194 := (f216 _ _ (fun q => absurd q.2 (by decide))).trans c195
                have c220 : I213 a0 7 = v196 := (f216 _ _ (fun q => absurd q.2 (by decide))).trans c197
                have c221 : I213 a0 2 = v199 := (f216 _ _ (fun q => absurd q.2 (by decide))).trans c200
                have c222 : I213 a0 4 = v202 := (f216 _ _ (fun q => absurd q.2 (by decide))).trans c203
                have c223 : I213 a0 3 = v205 := (f216 _ _ (fun q => absurd q.2 (by decide))).trans c206
                have c224 : I213 a0 6 = v210 := (f216 _ _ (fun q => absurd q.2 (by decide))).trans c211
                have hO225 : FrO 2 a23 T I0 I213 := hO171.put f216 ta98 (Or.inl (by decide))
                refine tr_aload_n dX7_readCall_91 rfl ?_
                refine tr_ldcwS dX7_readCall_92 ld7_297 ?_
                refine q_callVi hE (M' := mX7_takeWord) (as := [_]) dX7_readCall_95 lk7_126 inX7_takeWord seX7_takeWord myX7_takeWord (by decide) ⟨by decide, by decide⟩ rfl (kR7 hS214.1 ta0) (Nat.le_of_ble_eq_true rfl) rfl rfl (by decide) (by decide) (fk_X7_takeWord hS214.1 (gB) ((tkN gB (tkN gB (tkN gB gs)))) ta0 (by decide) (TxA.kp hT hS214 ta0 rfl rfl rfl (by decide +kernel) (by decide +kernel)) (by (try rw [c221]); first | done | with_reducible assumption | omega) (by (try rw [c222]); first | done | with_reducible assumption | omega) (by (try rw [c223]); first | done | with_reducible assumption | omega) (by (try rw [c209]); first | done | assumption) (by (try rw [c224]); first | done | assumption) (by (try rw [((hS214.cell ta0 (by decide +kernel)).trans c20)]); first | done | with_reducible assumption | omega)) ?_
                rintro v231 cn' K' N' I226 R227 L228 ⟨rfl, rfl, rfl, rfl, g229, gl230, h232, dj233, -⟩
                (try rw [pk_12] at dj233)
                have hS234 := hS214.tr g229 (by decide +kernel) (by decide +kernel)
                have c235 : I226 a23 11 = v33 := (g229.cell ta23 (by decide +kernel)).trans c217
                have c236 : I226 a98 0 = v60 := (g229.cell ta98 (by decide +kernel)).trans c218
                have c237 : I226 a0 7 = v196 := (g229.cell ta0 (by decide +kernel)).trans c220
                have c238 : I226 a98 1 = v196 := (g229.cell ta98 (by decide +kernel)).trans e215
                have hO239 : FrO 2 a23 T I0 I226 := hO225.st g229 (by decide +kernel)
                have hL240 := hL172.tr gl230 (by decide +kernel)
                have hN241 : NmC L228 R0 a0 gQ := NmC.kp hN173 gl230 hS234.1 ta0 (by decide +kernel) (by decide +kernel)
                rcases dj233 with ⟨p242, p243, p244, p245, p246, p247, p248, p249, p250, -⟩ | ⟨p251, p252, p253, p254, -⟩
                · skip
                  obtain ⟨v255, c256⟩ : ∃ v, I226 a0 15 = v := ⟨_, rfl⟩
                  rw [c256] at p243
                  rw [c219] at p243
                  obtain ⟨v257, c258⟩ : ∃ v, I226 a0 2 = v := ⟨_, rfl⟩
                  have b259 := iv7_2 hS234.1 ta0 c258
                  rw [c258] at p246
                  obtain ⟨v260, c261⟩ : ∃ v, I226 a0 4 = v := ⟨_, rfl⟩
                  have b262 := iv7_4 hS234.1 ta0 c261
                  rw [c261] at p247
                  obtain ⟨v263, c264⟩ : ∃ v, I226 a0 3 = v := ⟨_, rfl⟩
                  have b265 := iv7_3 hS234.1 ta0 c264
                  rw [c264] at p248
                  obtain ⟨y266, c267⟩ : ∃ v, L228 a0 5 = v := ⟨_, rfl⟩
                  rw [c267] at p249
                  obtain ⟨v268, c269⟩ : ∃ v, I226 a0 6 = v := ⟨_, rfl⟩
                  rw [c269] at p250
                  replace hF := hF.neg (by exact om_9e763d12 p244 p245)
                  replace hP := hP.neg (by exact om_9e763d12 p244 p245)
                  refine q_if_eq 111 dX7_readCall_98 (by decide) (fun h270 => ?_) (fun h270 => ?_)
                  · skip
                    exfalso; exact om_3624102b p242 h270
                  · skip
                    refine tr_aload_n dX7_readCall_101 rfl ?_
                    refine q_iconst dX7_readCall_102 (by decide) ?_
                    intro v271 h272
                    refine q_bipush dX7_readCall_103 (by decide +kernel) ?_
                    intro v273 h274
                    refine q_callVi hE (M' := mX7_takeWhole) (as := [_, _]) dX7_readCall_105 lk7_115 inX7_takeWhole seX7_takeWhole myX7_takeWhole (by decide) ⟨by decide, by decide⟩ rfl (kR7 hS234.1 ta0) (Nat.le_of_ble_eq_true rfl) rfl rfl (by decide) (by decide) (fk_X7_takeWhole hS234.1 (gB) ((tkN gB (tkN gB (tkN gB (tkN gB gs))))) ta0 (by exact om_07bb78b4 h272) (by exact om_8ae06965 h274) (TxA.kp hT hS234 ta0 rfl rfl rfl (by decide +kernel) (by decide +kernel)) (by (try rw [c258]); first | done | with_reducible assumption | omega) (by (try rw [c261]); first | done | with_reducible assumption | omega) (by (try rw [c264]); first | done | with_reducible assumption | omega) (by (try rw [c267]); first | done | assumption) (by (try rw [c269]); first | done | assumption) (by (try rw [((hS234.cell ta0 (by decide +kernel)).trans c20)]); first | done | with_reducible assumption | omega)) ?_
                    rintro v280 cn' K' N' I275 R276 L277 ⟨rfl, rfl, rfl, rfl, g278, gl279, h281, dj282, -⟩
                    have hS283 := hS234.tr g278 (by decide +kernel) (by decide +kernel)
                    have c284 : I275 a23 11 = v33 := (g278.cell ta23 (by decide +kernel)).trans c235
                    have c285 : I275 a98 0 = v60 := (g278.cell ta98 (by decide +kernel)).trans c236
                    have c286 : I275 a98 1 = v196 := (g278.cell ta98 (by decide +kernel)).trans c238
                    have hO287 : FrO 2 a23 T I0 I275 := hO239.st g278 (by decide +kernel)
                    have hL288 := hL240.tr gl279 (by decide +kernel)
                    have hN289 : NmC L277 R0 a0 gQ := NmC.kp hN241 gl279 hS283.1 ta0 (by decide +kernel) (by decide +kernel)
                    rcases dj282 with ⟨p290, p291, p292, p293, p294, p295, p296, p297, p298, p299, p300, -⟩ | ⟨p301, p302, p303, p304, -⟩ | ⟨p305, p306, p307, p308, p309, -⟩
                    · skip
                      obtain ⟨v310, c311⟩ : ∃ v, I275 a0 15 = v := ⟨_, rfl⟩
                      rw [c311] at p291
                      rw [c256] at p291
                      obtain ⟨v312, c313⟩ : ∃ v, I275 a0 7 = v := ⟨_, rfl⟩
                      have b314 := iv7_7 hS283.1 ta0 c313
                      rw [c313] at p295
                      obtain ⟨v315, c316⟩ : ∃ v, I275 a0 2 = v := ⟨_, rfl⟩
                      have b317 := iv7_2 hS283.1 ta0 c316
                      rw [c316] at p296
                      obtain ⟨v318, c319⟩ : ∃ v, I275 a0 4 = v := ⟨_, rfl⟩
                      have b320 := iv7_4 hS283.1 ta0 c319
                      rw [c319] at p297
                      obtain ⟨v321, c322⟩ : ∃ v, I275 a0 3 = v := ⟨_, rfl⟩
                      have b323 := iv7_3 hS283.1 ta0 c322
                      rw [c322] at p298
                      obtain ⟨y324, c325⟩ : ∃ v, L277 a0 5 = v := ⟨_, rfl⟩
                      rw [c325] at p299
                      obtain ⟨v326, c327⟩ : ∃ v, I275 a0 6 = v := ⟨_, rfl⟩
                      rw [c327] at p300
                      replace hF := hF.neg (by exact om_10ed11b5 p292)
                      replace hP := hP.neg (by exact om_10ed11b5 p292)
                      replace hF := hF.neg (by exact om_c162e743 h272 h274 p293 p294 p295)
                      replace hP := hP.neg (by exact om_c162e743 h272 h274 p293 p294 p295)
                      refine q_if_ne 113 dX7_readCall_108 (by decide) (fun h328 => ?_) (fun h328 => ?_)
                      · skip
                        refine tr_aload_n dX7_readCall_113 rfl ?_
                        refine tr_aload_n dX7_readCall_114 rfl ?_
                        refine q_getI dX7_readCall_115 fl7_109 (kR7 hS283.1 ta0) c313 ?_
                        refine q_putI dX7_readCall_118 fl7_299 (kR5 hS283.1 ta98) (Or.inl rfl) hS283 ta98 (iokF rfl) rfl (by decide +kernel) ?_
                        intro I329 hS330 e331 f332
                        have c333 : I329 a23 11 = v33 := (f332 _ _ (fun q => absurd q.2 (by decide))).trans c284
                        have c334 : I329 a98 0 = v60 := (f332 _ _ (fun q => absurd q.2 (by decide))).trans c285
                        have c335 : I329 a98 1 = v196 := (f332 _ _ (fun q => absurd q.2 (by decide))).trans c286
                        have c336 : I329 a0 15 = v310 := (f332 _ _ (fun q => absurd q.2 (by decide))).trans c311
                        have c337 : I329 a0 7 = v312 := (f332 _ _ (fun q => absurd q.2 (by decide))).trans c313
                        have c338 : I329 a0 2 = v315 := (f332 _ _ (fun q => by have z := ta0; rw [q.1, ta98] at z; exact absurd z (by decide))).trans c316
                        have c339 : I329 a0 4 = v318 := (f332 _ _ (fun q => absurd q.2 (by decide))).trans c319
                        have c340 : I329 a0 3 = v321 := (f332 _ _ (fun q => absurd q.2 (by decide))).trans c322
                        have c341 : I329 a0 6 = v326 := (f332 _ _ (fun q => absurd q.2 (by decide))).trans c327
                        have hO342 : FrO 2 a23 T I0 I329 := hO287.put f332 ta98 (Or.inl (by decide))
                        refine tr_aload_n dX7_readCall_121 rfl ?_
                        refine tr_ldcwS dX7_readCall_122 ld7_302 ?_
                        refine q_callVi hE (M' := mX7_takeWord) (as := [_]) dX7_readCall_125 lk7_126 inX7_takeWord seX7_takeWord myX7_takeWord (by decide) ⟨by decide, by decide⟩ rfl (kR7 hS330.1 ta0) (Nat.le_of_ble_eq_true rfl) rfl rfl (by decide) (by decide) (fk_X7_takeWord hS330.1 (gB) ((tkN gB (tkN gB (tkN gB (tkN gB (tkN gB gs)))))) ta0 (by decide) (TxA.kp hT hS330 ta0 rfl rfl rfl (by decide +kernel) (by decide +kernel)) (by (try rw [c338]); first | done | with_reducible assumption | omega) (by (try rw [c339]); first | done | with_reducible assumption | omega) (by (try rw [c340]); first | done | with_reducible assumption | omega) (by (try rw [c325]); first | done | assumption) (by (try rw [c341]); first | done | assumption) (by (try rw [((hS330.cell ta0 (by decide +kernel)).trans c20)]); first | done | with_reducible assumption | omega)) ?_
                        rintro v348 cn' K' N' I343 R344 L345 ⟨rfl, rfl, rfl, rfl, g346, gl347, h349, dj350, -⟩
                        (try rw [pk_8] at dj350)
                        have hS351 := hS330.tr g346 (by decide +kernel) (by decide +kernel)
                        have c352 : I343 a23 11 = v33 := (g346.cell ta23 (by decide +kernel)).trans c333
                        have c353 : I343 a98 0 = v60 := (g346.cell ta98 (by decide +kernel)).trans c334
                        have c354 : I343 a98 1 = v196 := (g346.cell ta98 (by decide +kernel)).trans c335
                        have c355 : I343 a0 7 = v312 := (g346.cell ta0 (by decide +kernel)).trans c337
                        have c356 : I343 a98 2 = v312 := (g346.cell ta98 (by decide +kernel)).trans e331
                        have hO357 : FrO 2 a23 T I0 I343 := hO342.st g346 (by decide +kernel)
                        have hL358 := hL288.tr gl347 (by decide +kernel)
                        have hN359 : NmC L345 R0 a0 gQ := NmC.kp hN289 gl347 hS351.1 ta0 (by decide +kernel) (by decide +kernel)
                        rcases dj350 with ⟨p360, p361, p362, p363, p364, p365, p366, p367, p368, -⟩ | ⟨p369, p370, p371, p372, -⟩
                        · skip
                          obtain ⟨v373, c374⟩ : ∃ v, I343 a0 15 = v := ⟨_, rfl⟩
                          rw [c374] at p361
                          rw [c336] at p361
                          obtain ⟨v375, c376⟩ : ∃ v, I343 a0 2 = v := ⟨_, rfl⟩
                          have b377 := iv7_2 hS351.1 ta0 c376
                          rw [c376] at p364
                          obtain ⟨v378, c379⟩ : ∃ v, I343 a0 4 = v := ⟨_, rfl⟩
                          have b380 := iv7_4 hS351.1 ta0 c379
                          rw [c379] at p365
                          obtain ⟨v381, c382⟩ : ∃ v, I343 a0 3 = v := ⟨_, rfl⟩
                          have b383 := iv7_3 hS351.1 ta0 c382
                          rw [c382] at p366
                          obtain ⟨y384, c385⟩ : ∃ v, L345 a0 5 = v := ⟨_, rfl⟩
                          rw [c385] at p367
                          obtain ⟨v386, c387⟩ : ∃ v, I343 a0 6 = v := ⟨_, rfl⟩
                          rw [c387] at p368
                          replace hF := hF.neg (by exact om_95feeb19 p362 p363)
                          replace hP := hP.neg (by exact om_95feeb19 p362 p363)
                          refine q_if_eq 141 dX7_readCall_128 (by decide) (fun h388 => ?_) (fun h388 => ?_)
                          · skip
                            exfalso; exact om_3624102b p360 h388
                          · skip
                            refine tr_aload_n dX7_readCall_131 rfl ?_
                            refine q_iconst dX7_readCall_132 (by decide) ?_
                            intro v389 h390
                            refine q_bipush dX7_readCall_133 (by decide +kernel) ?_
                            intro v391 h392
                            refine q_callVi hE (M' := mX7_takeWhole) (as := [_, _]) dX7_readCall_135 lk7_115 inX7_takeWhole seX7_takeWhole myX7_takeWhole (by decide) ⟨by decide, by decide⟩ rfl (kR7 hS351.1 ta0) (Nat.le_of_ble_eq_true rfl) rfl rfl (by decide) (by decide) (fk_X7_takeWhole hS351.1 (gB) ((tkN gB (tkN gB (tkN gB (tkN gB (tkN gB (tkN gB gs))))))) ta0 (by exact om_9ed8f7f4 h390) (by exact om_ebb6199b h392) (TxA.kp hT hS351 ta0 rfl rfl rfl (by decide +kernel) (by decide +kernel)) (by (try rw [c376]); first | done | with_reducible assumption | omega) (by (try rw [c379]); first | done | with_reducible assumption | omega) (by (try rw [c382]); first | done | with_reducible assumption | omega) (by (try rw [c385]); first | done | assumption) (by (try rw [c387]); first | done | assumption) (by (try rw [((hS351.cell ta0 (by decide +kernel)).trans c20)]); first | done | with_reducible assumption | omega)) ?_
                            rintro v398 cn' K' N' I393 R394 L395 ⟨rfl, rfl, rfl, rfl, g396, gl397, h399, dj400, -⟩
                            have hS401 := hS351.tr g396 (by decide +kernel) (by decide +kernel)
                            have c402 : I393 a23 11 = v33 := (g396.cell ta23 (by decide +kernel)).trans c352
                            have c403 : I393 a98 0 = v60 := (g396.cell ta98 (by decide +kernel)).trans c353
                            have c404 : I393 a98 1 = v196 := (g396.cell ta98 (by decide +kernel)).trans c354
                            have c405 : I393 a98 2 = v312 := (g396.cell ta98 (by decide +kernel)).trans c356
                            have hO406 : FrO 2 a23 T I0 I393 := hO357.st g396 (by decide +kernel)
                            have hL407 := hL358.tr gl397 (by decide +kernel)
                            have hN408 : NmC L395 R0 a0 gQ := NmC.kp hN359 gl397 hS401.1 ta0 (by decide +kernel) (by decide +kernel)
                            rcases dj400 with ⟨p409, p410, p411, p412, p413, p414, p415, p416, p417, p418, p419, -⟩ | ⟨p420, p421, p422, p423, -⟩ | ⟨p424, p425, p426, p427, p428, -⟩
                            · skip
                              obtain ⟨v429, c430⟩ : ∃ v, I393 a0 15 = v := ⟨_, rfl⟩
                              rw [c430] at p410
                              rw [c374] at p410
                              obtain ⟨v431, c432⟩ : ∃ v, I393 a0 7 = v := ⟨_, rfl⟩
                              have b433 := iv7_7 hS401.1 ta0 c432
                              rw [c432] at p414
                              obtain ⟨v434, c435⟩ : ∃ v, I393 a0 2 = v := ⟨_, rfl⟩
                              have b436 := iv7_2 hS401.1 ta0 c435
                              rw [c435] at p415
                              obtain ⟨v437, c438⟩ : ∃ v, I393 a0 4 = v := ⟨_, rfl⟩
                              have b439 := iv7_4 hS401.1 ta0 c438
                              rw [c438] at p416
                              obtain ⟨v440, c441⟩ : ∃ v, I393 a0 3 = v := ⟨_, rfl⟩
                              have b442 := iv7_3 hS401.1 ta0 c441
                              rw [c441] at p417
                              obtain ⟨y443, c444⟩ : ∃ v, L395 a0 5 = v := ⟨_, rfl⟩
                              rw [c444] at p418
                              obtain ⟨v445, c446⟩ : ∃ v, I393 a0 6 = v := ⟨_, rfl⟩
                              rw [c446] at p419
                              replace hF := hF.neg (by exact om_10ed11b5 p411)
                              replace hP := hP.neg (by exact om_10ed11b5 p411)
                              replace hF := hF.neg (by exact om_fe8ced5b h390 h392 p412 p413 p414)
                              replace hP := hP.neg (by exact om_fe8ced5b h390 h392 p412 p413 p414)
                              refine q_if_ne 143 dX7_readCall_138 (by decide) (fun h447 => ?_) (fun h447 => ?_)
                              · skip
                                refine tr_aload_n dX7_readCall_143 rfl ?_
                                refine tr_aload_n dX7_readCall_144 rfl ?_
                                refine q_getI dX7_readCall_145 fl7_109 (kR7 hS401.1 ta0) c432 ?_
                                refine q_putI dX7_readCall_148 fl7_304 (kR5 hS401.1 ta98) (Or.inl rfl) hS401 ta98 (iokF rfl) rfl (by decide +kernel) ?_
                                intro I448 hS449 e450 f451
                                have c452 : I448 a23 11 = v33 := (f451 _ _ (fun q => absurd q.2 (by decide))).trans c402
                                have c453 : I448 a98 0 = v60 := (f451 _ _ (fun q => absurd q.2 (by decide))).trans c403
                                have c454 : I448 a98 1 = v196 := (f451 _ _ (fun q => absurd q.2 (by decide))).trans c404
                                have c455 : I448 a98 2 = v312 := (f451 _ _ (fun q => absurd q.2 (by decide))).trans c405
                                have c456 : I448 a0 15 = v429 := (f451 _ _ (fun q => absurd q.2 (by decide))).trans c430
                                have c457 : I448 a0 7 = v431 := (f451 _ _ (fun q => absurd q.2 (by decide))).trans c432
                                have c458 : I448 a0 2 = v434 := (f451 _ _ (fun q => absurd q.2 (by decide))).trans c435
                                have c459 : I448 a0 4 = v437 := (f451 _ _ (fun q => absurd q.2 (by decide))).trans c438
                                have c460 : I448 a0 3 = v440 := (f451 _ _ (fun q => by have z := ta0; rw [q.1, ta98] at z; exact absurd z (by decide))).trans c441
                                have c461 : I448 a0 6 = v445 := (f451 _ _ (fun q => absurd q.2 (by decide))).trans c446
                                have hO462 : FrO 2 a23 T I0 I448 := hO406.put f451 ta98 (Or.inl (by decide))
                                refine tr_aload_n dX7_readCall_151 rfl ?_
                                refine tr_getR dX7_readCall_152 fl7_22 (kR7 hS449.1 ta0) d24 ?_
                                refine tr_dup dX7_readCall_155 rfl ?_
                                refine q_getI dX7_readCall_156 fl7_159 (kR2 hS449.1 ta23) c452 ?_
                                refine q_iconst dX7_readCall_159 (by decide) ?_
                                intro v463 h464
                                refine q_iaddE dX7_readCall_160 (by intro j1 j2 j3 j4; exact om_fc126a3e pre9 b35.2 b35.1 p36 h464) ?_
                                intro v465 h466
                                refine q_putI dX7_readCall_161 fl7_159 (kR2 hS449.1 ta23) (Or.inl rfl) hS449 ta23 (by show (0 : Int) ≤ v465.toInt ∧ v465.toInt ≤ (6 : Int); exact om_57d00769 pre9 b35.2 b35.1 p36 h464 h466) rfl (by decide +kernel) ?_
                                intro I467 hS468 e469 f470
                                have c471 : I467 a98 0 = v60 := (f470 _ _ (fun q => absurd q.2 (by decide))).trans c453
                                have c472 : I467 a98 1 = v196 := (f470 _ _ (fun q => absurd q.2 (by decide))).trans c454
                                have c473 : I467 a98 2 = v312 := (f470 _ _ (fun q => absurd q.2 (by decide))).trans c455
                                have c474 : I467 a0 15 = v429 := (f470 _ _ (fun q => absurd q.2 (by decide))).trans c456
                                have c475 : I467 a0 7 = v431 := (f470 _ _ (fun q => absurd q.2 (by decide))).trans c457
                                have c476 : I467 a0 2 = v434 := (f470 _ _ (fun q => absurd q.2 (by decide))).trans c458
                                have c477 : I467 a0 4 = v437 := (f470 _ _ (fun q => absurd q.2 (by decide))).trans c459
                                have c478 : I467 a0 3 = v440 := (f470 _ _ (fun q => absurd q.2 (by decide))).trans c460
                                have c479 : I467 a0 6 = v445 := (f470 _ _ (fun q => absurd q.2 (by decide))).trans c461
                                have c480 : I467 a98 3 = v431 := (f470 _ _ (fun q => absurd q.2 (by decide))).trans e450
                                have hO481 : FrO 2 a23 T I0 I467 := hO462.put f470 ta23 (Or.inr rfl)
                                refine q_iconst dX7_readCall_164 (by decide) ?_
                                intro v482 h483
                                have eF := hF.eq
                                have eP := hP.eq
                                obtain ⟨v484, c485⟩ : ∃ v, I467 a0 16 = v := ⟨_, rfl⟩
                                exact tr_zret hZ dX7_readCall_165 rfl (ti_b01 (by exact om_f9079521 h483) (by exact om_e6632817 h483)) (by decide) (by decide) ⟨v482, rfl, rfl, rfl, rfl, rfl, hS468, hL407, (by exact om_d753bc65 h483), (fun dr hd => (Option.some.inj (d24.symm.trans hd)) ▸ hO481), (Or.inl ⟨(by first | done | with_reducible assumption | omega), (by (try rw [c474]); (try rw [c39]); first | done | with_reducible assumption | exact om_d526aa71 p126 p175 p243 p291 p361 p410), (by first | done | with_reducible assumption | omega), (fun q0 z0 => by obtain rfl := Option.some.inj ((d24).symm.trans z0); (try rw [e469]); first | done | with_reducible assumption | exact om_58c7f992 p36 h464 h466), (by (try rw [c476]); first | done | with_reducible assumption | omega), (by (try rw [c477]); first | done | with_reducible assumption | omega), (by (try rw [c478]); first | done | with_reducible assumption | omega), (by (try rw [c444]); first | done | assumption), (by (try rw [c479]); first | done | assumption), trivial⟩), trivial⟩
                              · skip
                                exfalso; exact om_3624102b p409 h447
                            · skip
                              obtain ⟨v486, c487⟩ : ∃ v, I393 a0 15 = v := ⟨_, rfl⟩
                              rw [c487] at p422
                              obtain ⟨v488, c489⟩ : ∃ v, I393 a0 16 = v := ⟨_, rfl⟩
                              rw [c489] at p423
                              replace hF := hF.pos (by exact om_73cc8e29 p421)
                              replace hP := hP.pos (by exact om_73cc8e29 p421)
                              refine q_if_ne 143 dX7_readCall_138 (by decide) (fun h490 => ?_) (fun h490 => ?_)
                              · skip
                                exfalso; exact om_3a97d4a5 p420 h490
                              · skip
                                refine q_iconst dX7_readCall_141 (by decide) ?_
                                intro v491 h492
                                have eF := hF.eq
                                have eP := hP.eq
                                obtain ⟨v493, c494⟩ : ∃ v, I393 a0 2 = v := ⟨_, rfl⟩
                                have b495 := iv7_2 hS401.1 ta0 c494
                                obtain ⟨v496, c497⟩ : ∃ v, I393 a0 4 = v := ⟨_, rfl⟩
                                have b498 := iv7_4 hS401.1 ta0 c497
                                obtain ⟨v499, c500⟩ : ∃ v, I393 a0 3 = v := ⟨_, rfl⟩
                                have b501 := iv7_3 hS401.1 ta0 c500
                                obtain ⟨y502, c503⟩ : ∃ v, L395 a0 5 = v := ⟨_, rfl⟩
                                obtain ⟨v504, c505⟩ : ∃ v, I393 a0 6 = v := ⟨_, rfl⟩
                                exact tr_zret hZ dX7_readCall_142 rfl (ti_b01 (by exact om_d99fa9e4 h492) (by exact om_d3de7ec9 h492)) (by decide) (by decide) ⟨v491, rfl, rfl, rfl, rfl, rfl, hS401, hL407, (by exact om_3b50ecb9 h492), (fun dr hd => (Option.some.inj (d24.symm.trans hd)) ▸ hO406), (Or.inr (⟨(by first | done | with_reducible assumption | omega), (by first | done | with_reducible assumption | exact om_7fac24c5 eF), (by (try rw [c487]); first | done | with_reducible assumption | exact om_3345b898 p422 eF), (by (try rw [c489]); first | done | with_reducible assumption | exact om_2757374c p423 eP), trivial⟩)), trivial⟩
                            · skip
                              obtain ⟨v506, c507⟩ : ∃ v, I393 a0 15 = v := ⟨_, rfl⟩
                              rw [c507] at p427
                              obtain ⟨v508, c509⟩ : ∃ v, I393 a0 16 = v := ⟨_, rfl⟩
                              rw [c509] at p428
                              replace hF := hF.neg (by exact om_10ed11b5 p425)
                              replace hP := hP.neg (by exact om_10ed11b5 p425)
                              replace hF := hF.pos (by exact om_20030929 h390 h392 p426)
                              replace hP := hP.pos (by exact om_20030929 h390 h392 p426)
                              refine q_if_ne 143 dX7_readCall_138 (by decide) (fun h510 => ?_) (fun h510 => ?_)
                              · skip
                                exfalso; exact om_3a97d4a5 p424 h510
                              · skip
                                refine q_iconst dX7_readCall_141 (by decide) ?_
                                intro v511 h512
                                have eF := hF.eq
                                have eP := hP.eq
                                obtain ⟨v513, c514⟩ : ∃ v, I393 a0 2 = v := ⟨_, rfl⟩
                                have b515 := iv7_2 hS401.1 ta0 c514
                                obtain ⟨v516, c517⟩ : ∃ v, I393 a0 4 = v := ⟨_, rfl⟩
                                have b518 := iv7_4 hS401.1 ta0 c517
                                obtain ⟨v519, c520⟩ : ∃ v, I393 a0 3 = v := ⟨_, rfl⟩
                                have b521 := iv7_3 hS401.1 ta0 c520
                                obtain ⟨y522, c523⟩ : ∃ v, L395 a0 5 = v := ⟨_, rfl⟩
                                obtain ⟨v524, c525⟩ : ∃ v, I393 a0 6 = v := ⟨_, rfl⟩
                                exact tr_zret hZ dX7_readCall_142 rfl (ti_b01 (by exact om_d99fa9e4 h512) (by exact om_d3de7ec9 h512)) (by decide) (by decide) ⟨v511, rfl, rfl, rfl, rfl, rfl, hS401, hL407, (by exact om_3b50ecb9 h512), (fun dr hd => (Option.some.inj (d24.symm.trans hd)) ▸ hO406), (Or.inr (⟨(by first | done | with_reducible assumption | omega), (by first | done | with_reducible assumption | exact om_7b84bd42 eF), (by (try rw [c507]); first | done | with_reducible assumption | exact om_46d5da87 p427 eF), (by (try rw [c509]); first | done | with_reducible assumption | exact om_2757374c p428 eP), trivial⟩)), trivial⟩
                        · skip
                          obtain ⟨v526, c527⟩ : ∃ v, I343 a0 15 = v := ⟨_, rfl⟩
                          rw [c527] at p371
                          obtain ⟨v528, c529⟩ : ∃ v, I343 a0 16 = v := ⟨_, rfl⟩
                          rw [c529] at p372
                          replace hF := hF.pos (by exact om_0cd8357c p370)
                          replace hP := hP.pos (by exact om_0cd8357c p370)
                          refine q_if_eq 141 dX7_readCall_128 (by decide) (fun h530 => ?_) (fun h530 => ?_)
                          · skip
                            refine q_iconst dX7_readCall_141 (by decide) ?_
                            intro v531 h532
                            have eF := hF.eq
                            have eP := hP.eq
                            obtain ⟨v533, c534⟩ : ∃ v, I343 a0 2 = v := ⟨_, rfl⟩
                            have b535 := iv7_2 hS351.1 ta0 c534
                            obtain ⟨v536, c537⟩ : ∃ v, I343 a0 4 = v := ⟨_, rfl⟩
                            have b538 := iv7_4 hS351.1 ta0 c537
                            obtain ⟨v539, c540⟩ : ∃ v, I343 a0 3 = v := ⟨_, rfl⟩
                            have b541 := iv7_3 hS351.1 ta0 c540
                            obtain ⟨y542, c543⟩ : ∃ v, L345 a0 5 = v := ⟨_, rfl⟩
                            obtain ⟨v544, c545⟩ : ∃ v, I343 a0 6 = v := ⟨_, rfl⟩
                            exact tr_zret hZ dX7_readCall_142 rfl (ti_b01 (by exact om_d99fa9e4 h532) (by exact om_d3de7ec9 h532)) (by decide) (by decide) ⟨v531, rfl, rfl, rfl, rfl, rfl, hS351, hL358, (by exact om_3b50ecb9 h532), (fun dr hd => (Option.some.inj (d24.symm.trans hd)) ▸ hO357), (Or.inr (⟨(by first | done | with_reducible assumption | omega), (by first | done | with_reducible assumption | exact om_7fac24c5 eF), (by (try rw [c527]); first | done | with_reducible assumption | exact om_3345b898 p371 eF), (by (try rw [c529]); first | done | with_reducible assumption | exact om_2757374c p372 eP), trivial⟩)), trivial⟩
                          · skip
                            exfalso; exact om_3a97d4a5 p369 h530
                      · skip
                        exfalso; exact om_3624102b p290 h328
                    · skip
                      obtain ⟨v546, c547⟩ : ∃ v, I275 a0 15 = v := ⟨_, rfl⟩
                      rw [c547] at p303
                      obtain ⟨v548, c549⟩ : ∃ v, I275 a0 16 = v := ⟨_, rfl⟩
                      rw [c549] at p304
                      replace hF := hF.pos (by exact om_73cc8e29 p302)
                      replace hP := hP.pos (by exact om_73cc8e29 p302)
                      refine q_if_ne 113 dX7_readCall_108 (by decide) (fun h550 => ?_) (fun h550 => ?_)
                      · skip
                        exfalso; exact om_3a97d4a5 p301 h550
                      · skip
                        refine q_iconst dX7_readCall_111 (by decide) ?_
                        intro v551 h552
                        have eF := hF.eq
                        have eP := hP.eq
                        obtain ⟨v553, c554⟩ : ∃ v, I275 a0 2 = v := ⟨_, rfl⟩
                        have b555 := iv7_2 hS283.1 ta0 c554
                        obtain ⟨v556, c557⟩ : ∃ v, I275 a0 4 = v := ⟨_, rfl⟩
                        have b558 := iv7_4 hS283.1 ta0 c557
                        obtain ⟨v559, c560⟩ : ∃ v, I275 a0 3 = v := ⟨_, rfl⟩
                        have b561 := iv7_3 hS283.1 ta0 c560
                        obtain ⟨y562, c563⟩ : ∃ v, L277 a0 5 = v := ⟨_, rfl⟩
                        obtain ⟨v564, c565⟩ : ∃ v, I275 a0 6 = v := ⟨_, rfl⟩
                        exact tr_zret hZ dX7_readCall_112 rfl (ti_b01 (by exact om_d99fa9e4 h552) (by exact om_d3de7ec9 h552)) (by decide) (by decide) ⟨v551, rfl, rfl, rfl, rfl, rfl, hS283, hL288, (by exact om_3b50ecb9 h552), (fun dr hd => (Option.some.inj (d24.symm.trans hd)) ▸ hO287), (Or.inr (⟨(by first | done | with_reducible assumption | omega), (by first | done | with_reducible assumption | exact om_7fac24c5 eF), (by (try rw [c547]); first | done | with_reducible assumption | exact om_3345b898 p303 eF), (by (try rw [c549]); first | done | with_reducible assumption | exact om_2757374c p304 eP), trivial⟩)), trivial⟩
                    · skip
                      obtain ⟨v566, c567⟩ : ∃ v, I275 a0 15 = v := ⟨_, rfl⟩
                      rw [c567] at p308
                      obtain ⟨v568, c569⟩ : ∃ v, I275 a0 16 = v := ⟨_, rfl⟩
                      rw [c569] at p309
                      replace hF := hF.neg (by exact om_10ed11b5 p306)
                      replace hP := hP.neg (by exact om_10ed11b5 p306)
                      replace hF := hF.pos (by exact om_d2c63994 h272 h274 p307)
                      replace hP := hP.pos (by exact om_d2c63994 h272 h274 p307)
                      refine q_if_ne 113 dX7_readCall_108 (by decide) (fun h570 => ?_) (fun h570 => ?_)
                      · skip
                        exfalso; exact om_3a97d4a5 p305 h570
                      · skip
                        refine q_iconst dX7_readCall_111 (by decide) ?_
                        intro v571 h572
                        have eF := hF.eq
                        have eP := hP.eq
                        obtain ⟨v573, c574⟩ : ∃ v, I275 a0 2 = v := ⟨_, rfl⟩
                        have b575 := iv7_2 hS283.1 ta0 c574
                        obtain ⟨v576, c577⟩ : ∃ v, I275 a0 4 = v := ⟨_, rfl⟩
                        have b578 := iv7_4 hS283.1 ta0 c577
                        obtain ⟨v579, c580⟩ : ∃ v, I275 a0 3 = v := ⟨_, rfl⟩
                        have b581 := iv7_3 hS283.1 ta0 c580
                        obtain ⟨y582, c583⟩ : ∃ v, L277 a0 5 = v := ⟨_, rfl⟩
                        obtain ⟨v584, c585⟩ : ∃ v, I275 a0 6 = v := ⟨_, rfl⟩
                        exact tr_zret hZ dX7_readCall_112 rfl (ti_b01 (by exact om_d99fa9e4 h572) (by exact om_d3de7ec9 h572)) (by decide) (by decide) ⟨v571, rfl, rfl, rfl, rfl, rfl, hS283, hL288, (by exact om_3b50ecb9 h572), (fun dr hd => (Option.some.inj (d24.symm.trans hd)) ▸ hO287), (Or.inr (⟨(by first | done | with_reducible assumption | omega), (by first | done | with_reducible assumption | exact om_7b84bd42 eF), (by (try rw [c567]); first | done | with_reducible assumption | exact om_46d5da87 p308 eF), (by (try rw [c569]); first | done | with_reducible assumption | exact om_2757374c p309 eP), trivial⟩)), trivial⟩
                · skip
                  obtain ⟨v586, c587⟩ : ∃ v, I226 a0 15 = v := ⟨_, rfl⟩
                  rw [c587] at p253
                  obtain ⟨v588, c589⟩ : ∃ v, I226 a0 16 = v := ⟨_, rfl⟩
                  rw [c589] at p254
                  replace hF := hF.pos (by exact om_2d6c483d p252)
                  replace hP := hP.pos (by exact om_2d6c483d p252)
                  refine q_if_eq 111 dX7_readCall_98 (by decide) (fun h590 => ?_) (fun h590 => ?_)
                  · skip
                    refine q_iconst dX7_readCall_111 (by decide) ?_
                    intro v591 h592
                    have eF := hF.eq
                    have eP := hP.eq
                    obtain ⟨v593, c594⟩ : ∃ v, I226 a0 2 = v := ⟨_, rfl⟩
                    have b595 := iv7_2 hS234.1 ta0 c594
                    obtain ⟨v596, c597⟩ : ∃ v, I226 a0 4 = v := ⟨_, rfl⟩
                    have b598 := iv7_4 hS234.1 ta0 c597
                    obtain ⟨v599, c600⟩ : ∃ v, I226 a0 3 = v := ⟨_, rfl⟩
                    have b601 := iv7_3 hS234.1 ta0 c600
                    obtain ⟨y602, c603⟩ : ∃ v, L228 a0 5 = v := ⟨_, rfl⟩
                    obtain ⟨v604, c605⟩ : ∃ v, I226 a0 6 = v := ⟨_, rfl⟩
                    exact tr_zret hZ dX7_readCall_112 rfl (ti_b01 (by exact om_d99fa9e4 h592) (by exact om_d3de7ec9 h592)) (by decide) (by decide) ⟨v591, rfl, rfl, rfl, rfl, rfl, hS234, hL240, (by exact om_3b50ecb9 h592), (fun dr hd => (Option.some.inj (d24.symm.trans hd)) ▸ hO239), (Or.inr (⟨(by first | done | with_reducible assumption | omega), (by first | done | with_reducible assumption | exact om_7fac24c5 eF), (by (try rw [c587]); first | done | with_reducible assumption | exact om_3345b898 p253 eF), (by (try rw [c589]); first | done | with_reducible assumption | exact om_2757374c p254 eP), trivial⟩)), trivial⟩
                  · skip
                    exfalso; exact om_3a97d4a5 p251 h590
              · skip
                exfalso; exact om_3624102b p174 h212
            · skip
              obtain ⟨v606, c607⟩ : ∃ v, I160 a0 15 = v := ⟨_, rfl⟩
              rw [c607] at p187
              obtain ⟨v608, c609⟩ : ∃ v, I160 a0 16 = v := ⟨_, rfl⟩
              rw [c609] at p188
              replace hF := hF.pos (by exact om_73cc8e29 p186)
              replace hP := hP.pos (by exact om_73cc8e29 p186)
              refine q_if_ne 83 dX7_readCall_78 (by decide) (fun h610 => ?_) (fun h610 => ?_)
              · skip
                exfalso; exact om_3a97d4a5 p185 h610
              · skip
                refine q_iconst dX7_readCall_81 (by decide) ?_
                intro v611 h612
                have eF := hF.eq
                have eP := hP.eq
                obtain ⟨v613, c614⟩ : ∃ v, I160 a0 2 = v := ⟨_, rfl⟩
                have b615 := iv7_2 hS168.1 ta0 c614
                obtain ⟨v616, c617⟩ : ∃ v, I160 a0 4 = v := ⟨_, rfl⟩
                have b618 := iv7_4 hS168.1 ta0 c617
                obtain ⟨v619, c620⟩ : ∃ v, I160 a0 3 = v := ⟨_, rfl⟩
                have b621 := iv7_3 hS168.1 ta0 c620
                obtain ⟨y622, c623⟩ : ∃ v, L162 a0 5 = v := ⟨_, rfl⟩
                obtain ⟨v624, c625⟩ : ∃ v, I160 a0 6 = v := ⟨_, rfl⟩
                exact tr_zret hZ dX7_readCall_82 rfl (ti_b01 (by exact om_d99fa9e4 h612) (by exact om_d3de7ec9 h612)) (by decide) (by decide) ⟨v611, rfl, rfl, rfl, rfl, rfl, hS168, hL172, (by exact om_3b50ecb9 h612), (fun dr hd => (Option.some.inj (d24.symm.trans hd)) ▸ hO171), (Or.inr (⟨(by first | done | with_reducible assumption | omega), (by first | done | with_reducible assumption | exact om_7fac24c5 eF), (by (try rw [c607]); first | done | with_reducible assumption | exact om_3345b898 p187 eF), (by (try rw [c609]); first | done | with_reducible assumption | exact om_2757374c p188 eP), trivial⟩)), trivial⟩
            · skip
              obtain ⟨v626, c627⟩ : ∃ v, I160 a0 15 = v := ⟨_, rfl⟩
              rw [c627] at p192
              obtain ⟨v628, c629⟩ : ∃ v, I160 a0 16 = v := ⟨_, rfl⟩
              rw [c629] at p193
              replace hF := hF.neg (by exact om_10ed11b5 p190)
              replace hP := hP.neg (by exact om_10ed11b5 p190)
              replace hF := hF.pos (by exact om_d7b3392e p28 h155 h157 h159 p191)
              replace hP := hP.pos (by exact om_d7b3392e p28 h155 h157 h159 p191)
              refine q_if_ne 83 dX7_readCall_78 (by decide) (fun h630 => ?_) (fun h630 => ?_)
              · skip
                exfalso; exact om_3a97d4a5 p189 h630
              · skip
                refine q_iconst dX7_readCall_81 (by decide) ?_
                intro v631 h632
                have eF := hF.eq
                have eP := hP.eq
                obtain ⟨v633, c634⟩ : ∃ v, I160 a0 2 = v := ⟨_, rfl⟩
                have b635 := iv7_2 hS168.1 ta0 c634
                obtain ⟨v636, c637⟩ : ∃ v, I160 a0 4 = v := ⟨_, rfl⟩
                have b638 := iv7_4 hS168.1 ta0 c637
                obtain ⟨v639, c640⟩ : ∃ v, I160 a0 3 = v := ⟨_, rfl⟩
                have b641 := iv7_3 hS168.1 ta0 c640
                obtain ⟨y642, c643⟩ : ∃ v, L162 a0 5 = v := ⟨_, rfl⟩
                obtain ⟨v644, c645⟩ : ∃ v, I160 a0 6 = v := ⟨_, rfl⟩
                exact tr_zret hZ dX7_readCall_82 rfl (ti_b01 (by exact om_d99fa9e4 h632) (by exact om_d3de7ec9 h632)) (by decide) (by decide) ⟨v631, rfl, rfl, rfl, rfl, rfl, hS168, hL172, (by exact om_3b50ecb9 h632), (fun dr hd => (Option.some.inj (d24.symm.trans hd)) ▸ hO171), (Or.inr (⟨(by first | done | with_reducible assumption | omega), (by first | done | with_reducible assumption | exact om_7b84bd42 eF), (by (try rw [c627]); first | done | with_reducible assumption | exact om_46d5da87 p192 eF), (by (try rw [c629]); first | done | with_reducible assumption | exact om_2757374c p193 eP), trivial⟩)), trivial⟩
        · skip
          obtain ⟨v646, c647⟩ : ∃ v, I111 a0 15 = v := ⟨_, rfl⟩
          rw [c647] at p136
          obtain ⟨v648, c649⟩ : ∃ v, I111 a0 16 = v := ⟨_, rfl⟩
          rw [c649] at p137
          replace hF := hF.pos (by exact om_f23dce10 p135)
          replace hP := hP.pos (by exact om_f23dce10 p135)
          refine q_if_eq 81 dX7_readCall_61 (by decide) (fun h650 => ?_) (fun h650 => ?_)
          · skip
            refine q_iconst dX7_readCall_81 (by decide) ?_
            intro v651 h652
            have eF := hF.eq
            have eP := hP.eq
            obtain ⟨v653, c654⟩ : ∃ v, I111 a0 2 = v := ⟨_, rfl⟩
            have b655 := iv7_2 hS119.1 ta0 c654
            obtain ⟨v656, c657⟩ : ∃ v, I111 a0 4 = v := ⟨_, rfl⟩
            have b658 := iv7_4 hS119.1 ta0 c657
            obtain ⟨v659, c660⟩ : ∃ v, I111 a0 3 = v := ⟨_, rfl⟩
            have b661 := iv7_3 hS119.1 ta0 c660
            obtain ⟨y662, c663⟩ : ∃ v, L113 a0 5 = v := ⟨_, rfl⟩
            obtain ⟨v664, c665⟩ : ∃ v, I111 a0 6 = v := ⟨_, rfl⟩
            exact tr_zret hZ dX7_readCall_82 rfl (ti_b01 (by exact om_d99fa9e4 h652) (by exact om_d3de7ec9 h652)) (by decide) (by decide) ⟨v651, rfl, rfl, rfl, rfl, rfl, hS119, hL123, (by exact om_3b50ecb9 h652), (fun dr hd => (Option.some.inj (d24.symm.trans hd)) ▸ hO122), (Or.inr (⟨(by first | done | with_reducible assumption | omega), (by first | done | with_reducible assumption | exact om_7fac24c5 eF), (by (try rw [c647]); first | done | with_reducible assumption | exact om_3345b898 p136 eF), (by (try rw [c649]); first | done | with_reducible assumption | exact om_2757374c p137 eP), trivial⟩)), trivial⟩
          · skip
            exfalso; exact om_3a97d4a5 p134 h650
      · skip
        replace hF := hF.pos (by exact om_673f8c18 p62 h64 h65)
        replace hP := hP.pos (by exact om_673f8c18 p62 h64 h65)
        refine tr_aload_n dX7_readCall_23 rfl ?_
        refine q_iconst dX7_readCall_24 (by decide) ?_
        intro v666 h667
        refine q_callVi hE (M' := mX7_fail) (as := [_]) dX7_readCall_25 lk7_64 inX7_fail seX7_fail myX7_fail (by decide) ⟨by decide, by decide⟩ rfl (kR7 hS0.1 ta0) (Nat.le_of_ble_eq_true rfl) rfl rfl (by decide) (by decide) (fk_X7_fail hS0.1  ta0 (by exact om_18f49b90 h667)) ?_
        rintro v673 cn' K' N' I668 R669 L670 ⟨rfl, rfl, rfl, rfl, rfl, g671, h674, p675, p676, p677, -⟩
        have hS678 := hS0.tr g671 (by decide +kernel) (by decide +kernel)
        have c679 : I668 a0 2 = v1 := (g671.cell ta0 (by decide +kernel)).trans c2
        have c680 : I668 a0 4 = v5 := (g671.cell ta0 (by decide +kernel)).trans c6
        have c681 : I668 a0 3 = v9 := (g671.cell ta0 (by decide +kernel)).trans c10
        have c682 : I668 a0 6 = v16 := (g671.cell ta0 (by decide +kernel)).trans c17
        have c683 : I668 a23 11 = v33 := (g671.cell ta23 (by decide +kernel)).trans c34
        have hO684 : FrO 2 a23 T I0 I668 := hO0.st g671 (by decide +kernel)
        obtain ⟨v685, c686⟩ : ∃ v, I668 a0 15 = v := ⟨_, rfl⟩
        rw [c686] at p676
        obtain ⟨v687, c688⟩ : ∃ v, I668 a0 16 = v := ⟨_, rfl⟩
        rw [c688] at p677
        rw [c6] at p677
        have eF := hF.eq
        have eP := hP.eq
        exact tr_zret hZ dX7_readCall_28 rfl (ti_b01 (by exact om_d99fa9e4 p675) (by exact om_d3de7ec9 p675)) (by decide) (by decide) ⟨v673, rfl, rfl, rfl, rfl, rfl, hS678, hL0, (by exact om_be53a44c h674), (fun dr hd => (Option.some.inj (d24.symm.trans hd)) ▸ hO684), (Or.inr (⟨(by first | done | with_reducible assumption | omega), (by first | done | with_reducible assumption | exact om_ecb25a59 eF), (by (try rw [c686]); first | done | with_reducible assumption | exact om_a19a7c54 h667 p676 eF), (by (try rw [c688]); first | done | with_reducible assumption | exact om_3998a42e p8 p677 eP), trivial⟩)), trivial⟩
    · skip
      exfalso; exact om_3624102b p48 h53
  · skip
    replace hF := hF.pos (by exact om_ea380f8a p52)
    replace hP := hP.pos (by exact om_ea380f8a p52)
    refine q_if_ne 13 dX7_readCall_4 (by decide) (fun h689 => ?_) (fun h689 => ?_)
    · skip
      exfalso; exact om_3a97d4a5 p51 h689
    · skip
      refine tr_aload_n dX7_readCall_7 rfl ?_
      refine q_iconst dX7_readCall_8 (by decide) ?_
      intro v690 h691
      refine q_callVi hE (M' := mX7_fail) (as := [_]) dX7_readCall_9 lk7_64 inX7_fail seX7_fail myX7_fail (by decide) ⟨by decide, by decide⟩ rfl (kR7 hS0.1 ta0) (Nat.le_of_ble_eq_true rfl) rfl rfl (by decide) (by decide) (fk_X7_fail hS0.1  ta0 (by exact om_95922198 h691)) ?_
      rintro v697 cn' K' N' I692 R693 L694 ⟨rfl, rfl, rfl, rfl, rfl, g695, h698, p699, p700, p701, -⟩
      have hS702 := hS0.tr g695 (by decide +kernel) (by decide +kernel)
      have c703 : I692 a0 2 = v1 := (g695.cell ta0 (by decide +kernel)).trans c2
      have c704 : I692 a0 4 = v5 := (g695.cell ta0 (by decide +kernel)).trans c6
      have c705 : I692 a0 3 = v9 := (g695.cell ta0 (by decide +kernel)).trans c10
      have c706 : I692 a0 6 = v16 := (g695.cell ta0 (by decide +kernel)).trans c17
      have c707 : I692 a23 11 = v33 := (g695.cell ta23 (by decide +kernel)).trans c34
      have hO708 : FrO 2 a23 T I0 I692 := hO0.st g695 (by decide +kernel)
      obtain ⟨v709, c710⟩ : ∃ v, I692 a0 15 = v := ⟨_, rfl⟩
      rw [c710] at p700
      obtain ⟨v711, c712⟩ : ∃ v, I692 a0 16 = v := ⟨_, rfl⟩
      rw [c712] at p701
      rw [c6] at p701
      have eF := hF.eq
      have eP := hP.eq
      exact tr_zret hZ dX7_readCall_12 rfl (ti_b01 (by exact om_d99fa9e4 p699) (by exact om_d3de7ec9 p699)) (by decide) (by decide) ⟨v697, rfl, rfl, rfl, rfl, rfl, hS702, hL0, (by exact om_be53a44c h698), (fun dr hd => (Option.some.inj (d24.symm.trans hd)) ▸ hO708), (Or.inr (⟨(by first | done | with_reducible assumption | omega), (by first | done | with_reducible assumption | exact om_7fac24c5 eF), (by (try rw [c710]); first | done | with_reducible assumption | exact om_9adad658 h691 p700 eF), (by (try rw [c712]); first | done | with_reducible assumption | exact om_3998a42e p8 p701 eP), trivial⟩)), trivial⟩
def wik_X7_readMinutes : List Nat := [384, 450, 451, 452, 454, 463, 464, 1599]
def wrk_X7_readMinutes : List Nat := []
def wlk_X7_readMinutes : List Nat := [453]
set_option maxHeartbeats 4000000 in
theorem fk_X7_readMinutes {l : Launch} {T : Nat → Nat} {cn : Nat} {K N : Nat → Nat} {I0 : cz_I} {R0 : cz_R} {L0 : cz_L} {d : Int} (hW0 : Wf T cn K N I0 R0 d) (gB : cz_B) (gs : Int) (gQ : Nat → Int) {a0 : Nat} (ta0 : T a0 = 7) {a1 : Nat} (ta1 : T a1 = 6) (hT : ∀ t, R0 a0 0 = some t → Tx I0 t gB) (pre0 : (I0 a0 2).toInt = (tkN gB gs)) (pre1 : (I0 a0 4).toInt = (tkS gB gs)) (pre2 : (I0 a0 3).toInt = (tkK gB gs)) (pre3 : (AtW ((tkK gB gs)) ((L0 a0 5).toInt) ((tkW gB gs)))) (pre4 : (AtV ((tkK gB gs)) ((I0 a0 6).toInt) ((tkV gB gs)))) (pre5 : (I0 a0 1).toInt = (gB.2)) (pre6 : ∀ b1, R0 a0 10 = some b1 → (I0 b1 0).toInt = (gQ 0)) : ConE l mX7_readMinutes [.ref a0, .ref a1] cn K N I0 R0 L0 (ca_i (fun v cn' K' N' I' R' L' => cn = cn' ∧ K = K' ∧ N = N' ∧ R0 = R' ∧ St T cn K N d wik_X7_readMinutes wrk_X7_readMinutes I0 R0 I' R0 ∧ LgS T wlk_X7_readMinutes L0 L' ∧ (0 ≤ v.toInt ∧ v.toInt ≤ 1) ∧ (((v.toInt = 1) ∧ ((I' a0 15).toInt = (I0 a0 15).toInt) ∧ ((riF gB gQ 8 0 gs) = 0) ∧ ((I' a0 2).toInt = (tkN gB (riS gB gQ 8 0 gs))) ∧ ((I' a0 4).toInt = (tkS gB (riS gB gQ 8 0 gs))) ∧ ((I' a0 3).toInt = (tkK gB (riS gB gQ 8 0 gs))) ∧ ((AtW ((tkK gB (riS gB gQ 8 0 gs))) ((L' a0 5).toInt) ((tkW gB (riS gB gQ 8 0 gs))))) ∧ ((AtV ((tkK gB (riS gB gQ 8 0 gs))) ((I' a0 6).toInt) ((tkV gB (riS gB gQ 8 0 gs))))) ∧ True) ∨ ((v.toInt = 0) ∧ ((riF gB gQ 8 0 gs) ≠ 0) ∧ ((I' a0 15).toInt = (riF gB gQ 8 0 gs)) ∧ ((I' a0 16).toInt = (riP gB gQ 8 0 gs)) ∧ True)) ∧ True)) := by
  refine ConE.of (by decide +kernel) rfl (Nat.le_of_ble_eq_true rfl) rfl (fun X hX hZ hE => ?_)
  subst hX
  have hS0 : St T cn K N d wik_X7_readMinutes wrk_X7_readMinutes I0 R0 I0 R0 := St.rf0 hW0
  have hL0 : LgS T wlk_X7_readMinutes L0 L0 := LgS.rf0
  obtain ⟨v1, c2⟩ : ∃ v, I0 a0 2 = v := ⟨_, rfl⟩
  have b3 := iv7_2 hS0.1 ta0 c2
  have p4 := pre0
  rw [c2] at p4
  obtain ⟨v5, c6⟩ : ∃ v, I0 a0 4 = v := ⟨_, rfl⟩
  have b7 := iv7_4 hS0.1 ta0 c6
  have p8 := pre1
  rw [c6] at p8
  obtain ⟨v9, c10⟩ : ∃ v, I0 a0 3 = v := ⟨_, rfl⟩
  have b11 := iv7_3 hS0.1 ta0 c10
  have p12 := pre2
  rw [c10] at p12
  obtain ⟨y13, c14⟩ : ∃ v, L0 a0 5 = v := ⟨_, rfl⟩
  have p15 := pre3
  rw [c14] at p15
  obtain ⟨v16, c17⟩ : ∃ v, I0 a0 6 = v := ⟨_, rfl⟩
  have p18 := pre4
  rw [c17] at p18
  obtain ⟨v19, c20⟩ : ∃ v, I0 a0 1 = v := ⟨_, rfl⟩
  have b21 := iv7_1 hW0 ta0 c20
  have p22 := pre5
  rw [c20] at p22
  obtain ⟨a23, d24, ta23⟩ := rf7_10 hW0 ta0
  obtain ⟨v25, c26⟩ : ∃ v, I0 a23 0 = v := ⟨_, rfl⟩
  have b27 := iv2_0 hW0 ta23 c26
  have p28 := pre6 _ d24
  rw [c26] at p28
  obtain ⟨v29, c30⟩ : ∃ v, I0 a0 15 = v := ⟨_, rfl⟩
  refine tr_aload_n dX7_readMinutes_0 rfl ?_
  refine q_iconst dX7_readMinutes_1 (by decide) ?_
  intro v31 h32
  refine q_putI dX7_readMinutes_2 fl7_306 (kR6 hS0.1 ta1) (Or.inl rfl) hS0 ta1 (by show (0 : Int) ≤ v31.toInt ∧ v31.toInt ≤ (8 : Int); exact om_7d21acc5 h32) rfl (by decide +kernel) ?_
  intro I33 hS34 e35 f36
  have c37 : I33 a0 2 = v1 := (f36 _ _ (fun q => absurd q.2 (by decide))).trans c2
  have c38 : I33 a0 4 = v5 := (f36 _ _ (fun q => absurd q.2 (by decide))).trans c6
  have c39 : I33 a0 3 = v9 := (f36 _ _ (fun q => absurd q.2 (by decide))).trans c10
  have c40 : I33 a0 6 = v16 := (f36 _ _ (fun q => absurd q.2 (by decide))).trans c17
  have c41 : I33 a0 15 = v29 := (f36 _ _ (fun q => absurd q.2 (by decide))).trans c30
  refine q_iconst dX7_readMinutes_5 (by decide) ?_
  intro v42 h43
  refine tr_istore_n dX7_readMinutes_6 (by decide) (by decide) ?_
  refine q_iconst dX7_readMinutes_7 (by decide) ?_
  intro v44 h45
  refine tr_istore_n dX7_readMinutes_8 (by decide) (by decide) ?_
  have lp87 : ∀ (fu : Nat) (ls : Nat → Option Value) (v46 : Int32) (v47 : Int32) (I52 : cz_I) (L53 : cz_L) (gs54 : Int) (gr55 : Nat) (v58 : Int32) (v60 : Int32) (v62 : Int32) (v64 : Int32) (v66 : Int32) (y68 : Int64) (v70 : Int32), ls 0 = some (.ref a0) → ls 1 = some (.ref a1) → ls 2 = some (.int v46) → ls 3 = some (.int v47) → St T cn K N d wik_X7_readMinutes wrk_X7_readMinutes I0 R0 I52 R0 → LgS T wlk_X7_readMinutes L0 L53 → I52 a1 0 = v58 → I52 a0 15 = v60 → I52 a0 2 = v62 → I52 a0 4 = v64 → I52 a0 3 = v66 → L53 a0 5 = y68 → I52 a0 6 = v70 → (riF gB gQ gr55 v46.toInt gs54) = (riF gB gQ 8 0 gs) → (riP gB gQ gr55 v46.toInt gs54) = (riP gB gQ 8 0 gs) → (riS gB gQ gr55 v46.toInt gs54) = (riS gB gQ 8 0 gs) → v58.toInt = v47.toInt → 0 ≤ v46.toInt → v46.toInt ≤ 240 → 0 ≤ v47.toInt → v47.toInt ≤ 8 → ((gr55 : Int)) = -v47.toInt + 8 → v60.toInt = v29.toInt → v62.toInt = (tkN gB gs54) → v64.toInt = (tkS gB gs54) → v66.toInt = (tkK gB gs54) → (AtW ((tkK gB gs54)) (y68.toInt) ((tkW gB gs54))) → (AtV ((tkK gB gs54)) (v70.toInt) ((tkV gB gs54))) → (-v47.toInt + 9).toNat < fu → Tr X mX7_readMinutes 9 ls [] cn K N I52 R0 L53 0 0 := by
    intro fu
    induction fu with
    | zero => intros; rename_i hz; exact absurd hz (Nat.not_lt_zero _)
    | succ fu ih87 =>
      intro ls v46 v47 I52 L53 gs54 gr55 v58 v60 v62 v64 v66 y68 v70 hl48 hl49 hl50 hl51 hS56 hL57 c59 c61 c63 c65 c67 c69 c71 g72 g73 g74 g75 g76 g77 g78 g79 g80 g81 g82 g83 g84 g85 g86 hm87
      have b89 := iv6_0 hS56.1 ta1 c59
      have b90 := iv7_2 hS56.1 ta0 c63
      have b91 := iv7_4 hS56.1 ta0 c65
      have b92 := iv7_3 hS56.1 ta0 c67
      rcases Nat.eq_zero_or_pos gr55 with hz93 | hz93
      · skip
        subst hz93
        refine tr_iload_n dX7_readMinutes_9 hl51 ?_
        refine q_bipush dX7_readMinutes_10 (by decide +kernel) ?_
        intro v95 h96
        refine q_icmp_gt 97 dX7_readMinutes_12 (by decide) (fun h97 => ?_) (fun h97 => ?_)
        · skip
          exfalso; exact om_da2abde9 g80 h96 h97
        · skip
          refine tr_aload_n dX7_readMinutes_15 hl48 ?_
          refine tr_iload_n dX7_readMinutes_16 hl50 ?_
          refine tr_aload_n dX7_readMinutes_17 hl48 ?_
          refine tr_getR dX7_readMinutes_18 fl7_22 (kR7 hS56.1 ta0) d24 ?_
          refine q_getI dX7_readMinutes_21 fl7_118 (kR2 hS56.1 ta23) ((hS56.cell ta23 (by decide +kernel)).trans c26) ?_
          refine q_iconst dX7_readMinutes_24 (by decide) ?_
          intro v98 h99
          refine q_isubE dX7_readMinutes_25 (by intro j1 j2 j3 j4; exact om_37812ee5 b27.2 b27.1 p28 h99) ?_
          intro v100 h101
          refine q_callVi hE (M' := mX7_seesWhole) (as := [_, _]) dX7_readMinutes_26 lk7_105 inX7_seesWhole seX7_seesWhole myX7_seesWhole (by decide) ⟨by decide, by decide⟩ rfl (kR7 hS56.1 ta0) (Nat.le_of_ble_eq_true rfl) rfl rfl (by decide) (by decide) (fk_X7_seesWhole hS56.1 (gB) (gs54) ta0 (by (try rw [c63]); first | done | with_reducible assumption | omega) (by (try rw [c65]); first | done | with_reducible assumption | omega) (by (try rw [c67]); first | done | with_reducible assumption | omega) (by (try rw [c69]); first | done | assumption) (by (try rw [c71]); first | done | assumption)) ?_
          rintro v107 cn' K' N' I102 R103 L104 ⟨rfl, rfl, rfl, rfl, rfl, g105, h108, dj109, -⟩
          have hS110 := hS56.tr g105 (by decide +kernel) (by decide +kernel)
          have c111 : I102 a1 0 = v58 := (g105.cell ta1 (by decide +kernel)).trans c59
          have c112 : I102 a0 2 = v62 := (g105.cell ta0 (by decide +kernel)).trans c63
          have c113 : I102 a0 4 = v64 := (g105.cell ta0 (by decide +kernel)).trans c65
          have c114 : I102 a0 3 = v66 := (g105.cell ta0 (by decide +kernel)).trans c67
          have c115 : I102 a0 6 = v70 := (g105.cell ta0 (by decide +kernel)).trans c71
          rcases dj109 with ⟨p116, p117, p118, p119, p120, p121, -⟩ | ⟨p122, p123, p124, p125, -⟩ | ⟨p126, p127, p128, p129, p130, -⟩
          · skip
            obtain ⟨v131, c132⟩ : ∃ v, I102 a0 15 = v := ⟨_, rfl⟩
            rw [c132] at p117
            rw [c61] at p117
            rw [c71] at p121
            refine q_if_ne 34 dX7_readMinutes_29 (by decide) (fun h133 => ?_) (fun h133 => ?_)
            · skip
              refine tr_iload_n dX7_readMinutes_34 hl51 ?_
              refine q_bipush dX7_readMinutes_35 (by decide +kernel) ?_
              intro v134 h135
              refine q_icmp_ne 46 dX7_readMinutes_37 (by decide) (fun h136 => ?_) (fun h136 => ?_)
              · skip
                exfalso; exact om_4e9d4db5 g80 h135 h136
              · skip
                refine tr_aload_n dX7_readMinutes_40 hl48 ?_
                refine q_iconst dX7_readMinutes_41 (by decide) ?_
                intro v137 h138
                refine q_callVi hE (M' := mX7_fail) (as := [_]) dX7_readMinutes_42 lk7_64 inX7_fail seX7_fail myX7_fail (by decide) ⟨by decide, by decide⟩ rfl (kR7 hS110.1 ta0) (Nat.le_of_ble_eq_true rfl) rfl rfl (by decide) (by decide) (fk_X7_fail hS110.1  ta0 (by exact om_054a361c h138)) ?_
                rintro v144 cn' K' N' I139 R140 L141 ⟨rfl, rfl, rfl, rfl, rfl, g142, h145, p146, p147, p148, -⟩
                have hS149 := hS110.tr g142 (by decide +kernel) (by decide +kernel)
                have c150 : I139 a1 0 = v58 := (g142.cell ta1 (by decide +kernel)).trans c111
                have c151 : I139 a0 2 = v62 := (g142.cell ta0 (by decide +kernel)).trans c112
                have c152 : I139 a0 4 = v64 := (g142.cell ta0 (by decide +kernel)).trans c113
                have c153 : I139 a0 3 = v66 := (g142.cell ta0 (by decide +kernel)).trans c114
                have c154 : I139 a0 6 = v70 := (g142.cell ta0 (by decide +kernel)).trans c115
                obtain ⟨v155, c156⟩ : ∃ v, I139 a0 15 = v := ⟨_, rfl⟩
                rw [c156] at p147
                obtain ⟨v157, c158⟩ : ∃ v, I139 a0 16 = v := ⟨_, rfl⟩
                rw [c158] at p148
                rw [c113] at p148
                exact tr_zret hZ dX7_readMinutes_45 rfl (ti_b01 (by exact om_d99fa9e4 p146) (by exact om_d3de7ec9 p146)) (by decide) (by decide) ⟨v144, rfl, rfl, rfl, rfl, rfl, hS149, hL57, (by exact om_be53a44c h145), (Or.inr (⟨(by first | done | with_reducible assumption | omega), (by rw [← g72]; simp only [riF, ↓reduceIte]; exact om_62e43f65), (by (try rw [c156]); rw [← g72]; simp only [riF, ↓reduceIte]; exact om_ea85b178 p28 h99 h101 p118 p119 p120 p121 h138 p147), (by (try rw [c158]); rw [← g73]; simp only [riP, ↓reduceIte]; exact om_9fa72578 g83 p148), trivial⟩)), trivial⟩
            · skip
              exfalso; exact om_3624102b p116 h133
          · skip
            obtain ⟨v159, c160⟩ : ∃ v, I102 a0 15 = v := ⟨_, rfl⟩
            rw [c160] at p124
            obtain ⟨v161, c162⟩ : ∃ v, I102 a0 16 = v := ⟨_, rfl⟩
            rw [c162] at p125
            refine q_if_ne 34 dX7_readMinutes_29 (by decide) (fun h163 => ?_) (fun h163 => ?_)
            · skip
              exfalso; exact om_3a97d4a5 p122 h163
            · skip
              refine q_iconst dX7_readMinutes_32 (by decide) ?_
              intro v164 h165
              exact tr_zret hZ dX7_readMinutes_33 rfl (ti_b01 (by exact om_d99fa9e4 h165) (by exact om_d3de7ec9 h165)) (by decide) (by decide) ⟨v164, rfl, rfl, rfl, rfl, rfl, hS110, hL57, (by exact om_3b50ecb9 h165), (Or.inr (⟨(by first | done | with_reducible assumption | omega), (by rw [← g72]; simp only [riF, ↓reduceIte]; exact om_24d90ed0 p123), (by (try rw [c160]); rw [← g72]; simp only [riF, ↓reduceIte]; exact om_111d820a p123 p124), (by (try rw [c162]); rw [← g73]; simp only [riP, ↓reduceIte]; exact om_acd7a85a p125), trivial⟩)), trivial⟩
          · skip
            obtain ⟨v166, c167⟩ : ∃ v, I102 a0 15 = v := ⟨_, rfl⟩
            rw [c167] at p129
            obtain ⟨v168, c169⟩ : ∃ v, I102 a0 16 = v := ⟨_, rfl⟩
            rw [c169] at p130
            refine q_if_ne 34 dX7_readMinutes_29 (by decide) (fun h170 => ?_) (fun h170 => ?_)
            · skip
              exfalso; exact om_3a97d4a5 p126 h170
            · skip
              refine q_iconst dX7_readMinutes_32 (by decide) ?_
              intro v171 h172
              exact tr_zret hZ dX7_readMinutes_33 rfl (ti_b01 (by exact om_d99fa9e4 h172) (by exact om_d3de7ec9 h172)) (by decide) (by decide) ⟨v171, rfl, rfl, rfl, rfl, rfl, hS110, hL57, (by exact om_3b50ecb9 h172), (Or.inr (⟨(by first | done | with_reducible assumption | omega), (by rw [← g72]; simp only [riF, ↓reduceIte]; exact om_62e43f65), (by (try rw [c167]); rw [← g72]; simp only [riF, ↓reduceIte]; exact om_de701983 p28 h99 h101 p127 p128 p129), (by (try rw [c169]); rw [← g73]; simp only [riP, ↓reduceIte]; exact om_acd7a85a p130), trivial⟩)), trivial⟩
      · skip
        obtain ⟨gk94, rfl⟩ : ∃ k, gr55 = k + 1 := ⟨gr55 - 1, by exact om_87755ad8 g78 g79 g80 hz93⟩
        refine tr_iload_n dX7_readMinutes_9 hl51 ?_
        refine q_bipush dX7_readMinutes_10 (by decide +kernel) ?_
        intro v173 h174
        refine q_icmp_gt 97 dX7_readMinutes_12 (by decide) (fun h175 => ?_) (fun h175 => ?_)
        · skip
          exfalso; exact om_251387f0 g78 g79 g80 h174 h175
        · skip
          refine tr_aload_n dX7_readMinutes_15 hl48 ?_
          refine tr_iload_n dX7_readMinutes_16 hl50 ?_
          refine tr_aload_n dX7_readMinutes_17 hl48 ?_
          refine tr_getR dX7_readMinutes_18 fl7_22 (kR7 hS56.1 ta0) d24 ?_
          refine q_getI dX7_readMinutes_21 fl7_118 (kR2 hS56.1 ta23) ((hS56.cell ta23 (by decide +kernel)).trans c26) ?_
          refine q_iconst dX7_readMinutes_24 (by decide) ?_
          intro v176 h177
          refine q_isubE dX7_readMinutes_25 (by intro j1 j2 j3 j4; exact om_37812ee5 b27.2 b27.1 p28 h177) ?_
          intro v178 h179
          refine q_callVi hE (M' := mX7_seesWhole) (as := [_, _]) dX7_readMinutes_26 lk7_105 inX7_seesWhole seX7_seesWhole myX7_seesWhole (by decide) ⟨by decide, by decide⟩ rfl (kR7 hS56.1 ta0) (Nat.le_of_ble_eq_true rfl) rfl rfl (by decide) (by decide) (fk_X7_seesWhole hS56.1 (gB) (gs54) ta0 (by (try rw [c63]); first | done | with_reducible assumption | omega) (by (try rw [c65]); first | done | with_reducible assumption | omega) (by (try rw [c67]); first | done | with_reducible assumption | omega) (by (try rw [c69]); first | done | assumption) (by (try rw [c71]); first | done | assumption)) ?_
          rintro v185 cn' K' N' I180 R181 L182 ⟨rfl, rfl, rfl, rfl, rfl, g183, h186, dj187, -⟩
          have hS188 := hS56.tr g183 (by decide +kernel) (by decide +kernel)
          have c189 : I180 a1 0 = v58 := (g183.cell ta1 (by decide +kernel)).trans c59
          have c190 : I180 a0 2 = v62 := (g183.cell ta0 (by decide +kernel)).trans c63
          have c191 : I180 a0 4 = v64 := (g183.cell ta0 (by decide +kernel)).trans c65
          have c192 : I180 a0 3 = v66 := (g183.cell ta0 (by decide +kernel)).trans c67
          have c193 : I180 a0 6 = v70 := (g183.cell ta0 (by decide +kernel)).trans c71
          rcases dj187 with ⟨p194, p195, p196, p197, p198, p199, -⟩ | ⟨p200, p201, p202, p203, -⟩ | ⟨p204, p205, p206, p207, p208, -⟩
          · skip
            obtain ⟨v209, c210⟩ : ∃ v, I180 a0 15 = v := ⟨_, rfl⟩
            rw [c210] at p195
            rw [c61] at p195
            rw [c71] at p199
            refine q_if_ne 34 dX7_readMinutes_29 (by decide) (fun h211 => ?_) (fun h211 => ?_)
            · skip
              refine tr_iload_n dX7_readMinutes_34 hl51 ?_
              refine q_bipush dX7_readMinutes_35 (by decide +kernel) ?_
              intro v212 h213
              refine q_icmp_ne 46 dX7_readMinutes_37 (by decide) (fun h214 => ?_) (fun h214 => ?_)
              · skip
                refine tr_aload_n dX7_readMinutes_46 hl49 ?_
                obtain ⟨a215, d216, ta215⟩ := rf6_1 hW0 ta1
                refine tr_getR dX7_readMinutes_47 fl7_311 (kR6 hS188.1 ta1) d216 ?_
                refine tr_iload_n dX7_readMinutes_50 hl51 ?_
                refine tr_aload_n dX7_readMinutes_51 hl48 ?_
                have p217 := g86 (by exact om_80d827e6 p196)
                refine q_getI dX7_readMinutes_52 fl7_86 (kR7 hS188.1 ta0) c193 ?_
                refine q_iast dX7_readMinutes_55 (kR24 hS188.1 ta215) (ti_in (nR24 hS188.1 ta215) (by exact om_2cfcd5a5 g78) (by exact om_b28e7785 g78 g79 g80)) hS188 ta215 (by show (0 : Int) ≤ v70.toInt ∧ v70.toInt ≤ (239 : Int); exact om_cf21cfaf b27.2 b27.1 p28 g76 g77 h177 h179 p197 p198 p199) rfl (by rfl) ?_
                intro I218 hS219 e221 f220
                have c222 : I218 a1 0 = v58 := (f220 _ _ (fun q => by have z := ta1; rw [q.1, ta215] at z; exact absurd z (by decide))).trans c189
                have c223 : I218 a0 2 = v62 := (f220 _ _ (fun q => by have z := ta0; rw [q.1, ta215] at z; exact absurd z (by decide))).trans c190
                have c224 : I218 a0 4 = v64 := (f220 _ _ (fun q => by have z := ta0; rw [q.1, ta215] at z; exact absurd z (by decide))).trans c191
                have c225 : I218 a0 3 = v66 := (f220 _ _ (fun q => by have z := ta0; rw [q.1, ta215] at z; exact absurd z (by decide))).trans c192
                have c226 : I218 a0 6 = v70 := (f220 _ _ (fun q => by have z := ta0; rw [q.1, ta215] at z; exact absurd z (by decide))).trans c193
                have c227 : I218 a0 15 = v209 := (f220 _ _ (fun q => by have z := ta0; rw [q.1, ta215] at z; exact absurd z (by decide))).trans c210
                refine tr_aload_n dX7_readMinutes_56 hl49 ?_
                refine tr_dup dX7_readMinutes_57 rfl ?_
                refine q_getI dX7_readMinutes_58 fl7_306 (kR6 hS219.1 ta1) c222 ?_
                refine q_iconst dX7_readMinutes_61 (by decide) ?_
                intro v228 h229
                refine q_iaddE dX7_readMinutes_62 (by intro j1 j2 j3 j4; exact om_6413ed3a g75 g78 g79 g80 h174 h175 h229) ?_
                intro v230 h231
                refine q_putI dX7_readMinutes_63 fl7_306 (kR6 hS219.1 ta1) (Or.inl rfl) hS219 ta1 (by show (0 : Int) ≤ v230.toInt ∧ v230.toInt ≤ (8 : Int); exact om_49a49560 g75 g78 g79 g80 h229 h231) rfl (by decide +kernel) ?_
                intro I232 hS233 e234 f235
                have c236 : I232 a0 2 = v62 := (f235 _ _ (fun q => absurd q.2 (by decide))).trans c223
                have c237 : I232 a0 4 = v64 := (f235 _ _ (fun q => absurd q.2 (by decide))).trans c224
                have c238 : I232 a0 3 = v66 := (f235 _ _ (fun q => absurd q.2 (by decide))).trans c225
                have c239 : I232 a0 6 = v70 := (f235 _ _ (fun q => absurd q.2 (by decide))).trans c226
                have c240 : I232 a0 15 = v209 := (f235 _ _ (fun q => absurd q.2 (by decide))).trans c227
                refine tr_aload_n dX7_readMinutes_66 hl48 ?_
                refine q_getI dX7_readMinutes_67 fl7_86 (kR7 hS233.1 ta0) c239 ?_
                refine q_iconst dX7_readMinutes_70 (by decide) ?_
                intro v241 h242
                refine q_iaddE dX7_readMinutes_71 (by intro j1 j2 j3 j4; exact om_3fb05bbd b27.2 b27.1 p28 g76 g77 h177 h179 p197 p198 p199 h242 j1 j2) ?_
                intro v243 h244
                refine tr_istore_n dX7_readMinutes_72 (by decide) (by decide) ?_
                refine tr_aload_n dX7_readMinutes_73 hl48 ?_
                refine q_callVv hE (M' := mX7_step) (as := []) dX7_readMinutes_74 lk7_51 inX7_step seX7_step myX7_step (by decide) ⟨by decide, by decide⟩ rfl (kR7 hS233.1 ta0) (Nat.le_of_ble_eq_true rfl) rfl rfl (by decide) (by decide) (fk_X7_step hS233.1 (gB) ((tkN gB gs54)) ta0 (TxA.kp hT hS233 ta0 rfl rfl rfl (by decide +kernel) (by decide +kernel)) (by (try rw [c236]); first | done | with_reducible assumption | omega) (by (try rw [((hS233.cell ta0 (by decide +kernel)).trans c20)]); first | done | with_reducible assumption | omega)) ?_
                rintro cn' K' N' I245 R246 L247 ⟨rfl, rfl, rfl, rfl, g248, gl249, p251, p252, p253, p254, p255, -⟩
                have hS256 := hS233.tr g248 (by decide +kernel) (by decide +kernel)
                have c257 : I245 a0 15 = v209 := (g248.cell ta0 (by decide +kernel)).trans c240
                have c258 : I245 a1 0 = v230 := (g248.cell ta1 (by decide +kernel)).trans e234
                have hL259 := hL57.tr gl249 (by decide +kernel)
                obtain ⟨v260, c261⟩ : ∃ v, I245 a0 2 = v := ⟨_, rfl⟩
                have b262 := iv7_2 hS256.1 ta0 c261
                rw [c261] at p251
                obtain ⟨v263, c264⟩ : ∃ v, I245 a0 4 = v := ⟨_, rfl⟩
                have b265 := iv7_4 hS256.1 ta0 c264
                rw [c264] at p252
                obtain ⟨v266, c267⟩ : ∃ v, I245 a0 3 = v := ⟨_, rfl⟩
                have b268 := iv7_3 hS256.1 ta0 c267
                rw [c267] at p253
                obtain ⟨y269, c270⟩ : ∃ v, L247 a0 5 = v := ⟨_, rfl⟩
                rw [c270] at p254
                obtain ⟨v271, c272⟩ : ∃ v, I245 a0 6 = v := ⟨_, rfl⟩
                rw [c272] at p255
                refine tr_aload_n dX7_readMinutes_77 hl48 ?_
                refine q_getI dX7_readMinutes_78 fl7_58 (kR7 hS256.1 ta0) c267 ?_
                refine q_iconst dX7_readMinutes_81 (by decide) ?_
                intro v273 h274
                refine q_icmp_eq 87 dX7_readMinutes_82 (by decide) (fun h275 => ?_) (fun h275 => ?_)
                · skip
                  refine tr_aload_n dX7_readMinutes_87 hl48 ?_
                  refine q_callVv hE (M' := mX7_step) (as := []) dX7_readMinutes_88 lk7_51 inX7_step seX7_step myX7_step (by decide) ⟨by decide, by decide⟩ rfl (kR7 hS256.1 ta0) (Nat.le_of_ble_eq_true rfl) rfl rfl (by decide) (by decide) (fk_X7_step hS256.1 (gB) ((tkN gB (tkN gB gs54))) ta0 (TxA.kp hT hS256 ta0 rfl rfl rfl (by decide +kernel) (by decide +kernel)) (by (try rw [c261]); first | done | with_reducible assumption | omega) (by (try rw [((hS256.cell ta0 (by decide +kernel)).trans c20)]); first | done | with_reducible assumption | omega)) ?_
                  rintro cn' K' N' I276 R277 L278 ⟨rfl, rfl, rfl, rfl, g279, gl280, p282, p283, p284, p285, p286, -⟩
                  have hS287 := hS256.tr g279 (by decide +kernel) (by decide +kernel)
                  have c288 : I276 a0 15 = v209 := (g279.cell ta0 (by decide +kernel)).trans c257
                  have c289 : I276 a1 0 = v230 := (g279.cell ta1 (by decide +kernel)).trans c258
                  have hL290 := hL259.tr gl280 (by decide +kernel)
                  obtain ⟨v291, c292⟩ : ∃ v, I276 a0 2 = v := ⟨_, rfl⟩
                  have b293 := iv7_2 hS287.1 ta0 c292
                  rw [c292] at p282
                  obtain ⟨v294, c295⟩ : ∃ v, I276 a0 4 = v := ⟨_, rfl⟩
                  have b296 := iv7_4 hS287.1 ta0 c295
                  rw [c295] at p283
                  obtain ⟨v297, c298⟩ : ∃ v, I276 a0 3 = v := ⟨_, rfl⟩
                  have b299 := iv7_3 hS287.1 ta0 c298
                  rw [c298] at p284
                  obtain ⟨y300, c301⟩ : ∃ v, L278 a0 5 = v := ⟨_, rfl⟩
                  rw [c301] at p285
                  obtain ⟨v302, c303⟩ : ∃ v, I276 a0 6 = v := ⟨_, rfl⟩
                  rw [c303] at p286
                  refine q_iincE dX7_readMinutes_91 hl51 (by decide) (by decide) (by intro j1 j2; exact om_496cffe4 g75 g78 g79 g80 h229 h231) ?_
                  intro v304 h305
                  refine tr_goto 9 dX7_readMinutes_94 (by decide) ?_
                  exact ih87 _ v243 v304 I276 L278 ((tkN gB (tkN gB gs54))) (gk94) v230 v209 v291 v294 v297 y300 v302 hl48 hl49 rfl rfl hS287 hL290 c289 c288 c292 c295 c298 c301 c303 (by rw [← g72]; simp only [riF, ↓reduceIte]; rw [show v243.toInt = tkV gB gs54 + 1 by exact om_58c7f992 p199 h242 h244]; repeat' (first | split | omega)) (by rw [← g73]; simp only [riP, ↓reduceIte]; rw [show v243.toInt = tkV gB gs54 + 1 by exact om_58c7f992 p199 h242 h244]; repeat' (first | split | omega)) (by rw [← g74]; simp only [riS, ↓reduceIte]; rw [show v243.toInt = tkV gB gs54 + 1 by exact om_58c7f992 p199 h242 h244]; repeat' (first | split | omega)) (by exact om_2ee90325 g75 g80 h229 h231 h305) (by exact om_d682c8b4 g76 g77 p197 p199 h242 h244) (by exact om_8ebba6c3 b27.2 b27.1 p28 h177 h179 p198 p199 h242 h244) (by exact om_d012f6c2 g75 g78 g79 g80 h229 h231 h305) (by exact om_044f858e g75 g78 g79 g80 h229 h231 h305) (by exact om_100e0aa2 g75 g80 h229 h231 h305) (by exact om_9fa72578 g81 p195) (by exact om_acd7a85a p282) (by exact om_acd7a85a p283) (by exact om_acd7a85a p284) (by assumption) (by assumption) (by exact om_ec7fabd9 g75 g78 g79 hm87 g80 p194 h211 h213 h214 h229 h231 h305)
                · skip
                  refine q_iconst dX7_readMinutes_85 (by decide) ?_
                  intro v306 h307
                  have es308 : riS gB gQ 8 0 gs = (tkN gB gs54) := by rw [← g74]; simp only [riS, ↓reduceIte]; exact om_6d32b66e p253 h274 h275
                  obtain ⟨v309, c310⟩ : ∃ v, I245 a0 16 = v := ⟨_, rfl⟩
                  exact tr_zret hZ dX7_readMinutes_86 rfl (ti_b01 (by exact om_f9079521 h307) (by exact om_e6632817 h307)) (by decide) (by decide) ⟨v306, rfl, rfl, rfl, rfl, rfl, hS256, hL259, (by exact om_d753bc65 h307), (Or.inl ⟨(by (try rw [es308]); first | done | with_reducible assumption | omega), (by (try rw [es308]); (try rw [c257]); (try rw [c30]); first | done | with_reducible assumption | exact om_9fa72578 g81 p195), (by rw [← g72]; simp only [riF, ↓reduceIte]; exact om_516b6f52 p28 h177 h179 p196 p197 p198 p199 h242 h244 p253 h274 h275), (by (try rw [es308]); (try rw [c261]); first | done | with_reducible assumption | omega), (by (try rw [es308]); (try rw [c264]); first | done | with_reducible assumption | omega), (by (try rw [es308]); (try rw [c267]); first | done | with_reducible assumption | omega), (by (try rw [es308]); (try rw [c270]); first | done | assumption), (by (try rw [es308]); (try rw [c272]); first | done | assumption), trivial⟩), trivial⟩
              · skip
                exfalso; exact om_254743be g78 g79 g80 h213 h214
            · skip
              exfalso; exact om_3624102b p194 h211
          · skip
            obtain ⟨v311, c312⟩ : ∃ v, I180 a0 15 = v := ⟨_, rfl⟩
            rw [c312] at p202
            obtain ⟨v313, c314⟩ : ∃ v, I180 a0 16 = v := ⟨_, rfl⟩
            rw [c314] at p203
            refine q_if_ne 34 dX7_readMinutes_29 (by decide) (fun h315 => ?_) (fun h315 => ?_)
            · skip
              exfalso; exact om_3a97d4a5 p200 h315
            · skip
              refine q_iconst dX7_readMinutes_32 (by decide) ?_
              intro v316 h317
              exact tr_zret hZ dX7_readMinutes_33 rfl (ti_b01 (by exact om_d99fa9e4 h317) (by exact om_d3de7ec9 h317)) (by decide) (by decide) ⟨v316, rfl, rfl, rfl, rfl, rfl, hS188, hL57, (by exact om_3b50ecb9 h317), (Or.inr (⟨(by first | done | with_reducible assumption | omega), (by rw [← g72]; simp only [riF, ↓reduceIte]; exact om_fd03680b p201), (by (try rw [c312]); rw [← g72]; simp only [riF, ↓reduceIte]; exact om_6dcab851 p201 p202), (by (try rw [c314]); rw [← g73]; simp only [riP, ↓reduceIte]; exact om_0183a736 p201 p203), trivial⟩)), trivial⟩
          · skip
            obtain ⟨v318, c319⟩ : ∃ v, I180 a0 15 = v := ⟨_, rfl⟩
            rw [c319] at p207
            obtain ⟨v320, c321⟩ : ∃ v, I180 a0 16 = v := ⟨_, rfl⟩
            rw [c321] at p208
            refine q_if_ne 34 dX7_readMinutes_29 (by decide) (fun h322 => ?_) (fun h322 => ?_)
            · skip
              exfalso; exact om_3a97d4a5 p204 h322
            · skip
              refine q_iconst dX7_readMinutes_32 (by decide) ?_
              intro v323 h324
              exact tr_zret hZ dX7_readMinutes_33 rfl (ti_b01 (by exact om_d99fa9e4 h324) (by exact om_d3de7ec9 h324)) (by decide) (by decide) ⟨v323, rfl, rfl, rfl, rfl, rfl, hS188, hL57, (by exact om_3b50ecb9 h324), (Or.inr (⟨(by first | done | with_reducible assumption | omega), (by rw [← g72]; simp only [riF, ↓reduceIte]; exact om_dc4127be p28 h177 h179 p206), (by (try rw [c319]); rw [← g72]; simp only [riF, ↓reduceIte]; exact om_cee36728 p28 h177 h179 p205 p206 p207), (by (try rw [c321]); rw [← g73]; simp only [riP, ↓reduceIte]; exact om_601a4714 p28 g83 b91.2 b91.1 h177 h179 p206 p208), trivial⟩)), trivial⟩
  exact lp87 _ _ v42 v44 I33 L0 (gs) (8) v31 v29 v1 v5 v9 y13 v16 rfl rfl rfl rfl hS34 hL0 e35 c41 c37 c38 c39 c14 c40 (by first | rfl | (congr 1; omega) | (congr 2 <;> omega)) (by first | rfl | (congr 1; omega) | (congr 2 <;> omega)) (by first | rfl | (congr 1; omega) | (congr 2 <;> omega)) (by exact om_5bac22bd h32 h45) (by exact om_d99fa9e4 h43) (by exact om_4c96df26 h43) (by exact om_d99fa9e4 h45) (by exact om_91231c9d h45) (by exact om_45513e8b h45) (by exact om_4ee7209a) (by exact om_acd7a85a p4) (by exact om_acd7a85a p8) (by exact om_acd7a85a p12) (by assumption) (by assumption) (Nat.lt_succ_self _)
