def wik_X7_readCheese : List Nat := [133, 135, 450, 451, 452, 454, 455, 463, 464, 1343]
def wrk_X7_readCheese : List Nat := []
def wlk_X7_readCheese : List Nat := [453, 1663]
set_option maxHeartbeats 4000000 in
theorem fk_X7_readCheese {l : Launch} {T : Nat → Nat} {cn : Nat} {K N : Nat → Nat} {I0 : cz_I} {R0 : cz_R} {L0 : cz_L} {d : Int} (hW0 : Wf T cn K N I0 R0 d) (gB : cz_B) (gs : Int) (gQ : Nat → Int) {a0 : Nat} (ta0 : T a0 = 7) (hT : ∀ t, R0 a0 0 = some t → Tx I0 t gB) (hN : NmC L0 R0 a0 gQ) (pre0 : (I0 a0 2).toInt = (tkN gB gs)) (pre1 : (I0 a0 4).toInt = (tkS gB gs)) (pre2 : (I0 a0 3).toInt = (tkK gB gs)) (pre3 : (AtW ((tkK gB gs)) ((L0 a0 5).toInt) ((tkW gB gs)))) (pre4 : (AtV ((tkK gB gs)) ((I0 a0 6).toInt) ((tkV gB gs)))) (pre5 : (I0 a0 1).toInt = (gB.2)) (pre6 : ∀ b1, R0 a0 10 = some b1 → (I0 b1 1).toInt = (gQ 1)) (pre7 : ∀ b1, R0 a0 10 = some b1 → (I0 b1 5).toInt = (gQ 3)) (pre8 : ∀ b1, R0 a0 10 = some b1 → (I0 b1 9).toInt = (gQ 4)) (pre9 : (gQ 3) ≤ 7) (pre10 : (gQ 4) ≤ 5) : ConE l mX7_readCheese [.ref a0] cn K N I0 R0 L0 (ca_i (fun v cn' K' N' I' R' L' => cn = cn' ∧ K = K' ∧ N = N' ∧ R0 = R' ∧ St T cn K N d wik_X7_readCheese wrk_X7_readCheese I0 R0 I' R0 ∧ LgS T wlk_X7_readCheese L0 L' ∧ (0 ≤ v.toInt ∧ v.toInt ≤ 1) ∧ (((v.toInt = 1) ∧ ((I' a0 15).toInt = (I0 a0 15).toInt) ∧ ((chF gB gQ gs) = 0) ∧ (∀ b1, R0 a0 10 = some b1 → (I' b1 5).toInt = (gQ 3) + 1) ∧ ((I' a0 2).toInt = (tkN gB (chS gB gQ gs))) ∧ ((I' a0 4).toInt = (tkS gB (chS gB gQ gs))) ∧ ((I' a0 3).toInt = (tkK gB (chS gB gQ gs))) ∧ ((AtW ((tkK gB (chS gB gQ gs))) ((L' a0 5).toInt) ((tkW gB (chS gB gQ gs))))) ∧ ((AtV ((tkK gB (chS gB gQ gs))) ((I' a0 6).toInt) ((tkV gB (chS gB gQ gs))))) ∧ (NmC L' R0 a0 (bdQ gB gQ 5 gs)) ∧ True) ∨ ((v.toInt = 0) ∧ ((chF gB gQ gs) ≠ 0) ∧ ((I' a0 15).toInt = (chF gB gQ gs)) ∧ ((I' a0 16).toInt = (chP gB gQ gs)) ∧ True)) ∧ True)) := by
  refine ConE.of (by decide +kernel) rfl (Nat.le_of_ble_eq_true rfl) rfl (fun X hX hZ hE => ?_)
  subst hX
  have hS0 : St T cn K N d wik_X7_readCheese wrk_X7_readCheese I0 R0 I0 R0 := St.rf0 hW0
  have hL0 : LgS T wlk_X7_readCheese L0 L0 := LgS.rf0
  obtain ⟨v1, c2⟩ : ∃ v, I0 a0 2 = v := ⟨_, rfl⟩
  have b3 := iv7_2 hS0.1 ta0 c2
  have p4 := pre0
  rw [c2] at p4
  obtain ⟨v5, c6⟩ : ∃ v, I0 a0 4 = v := ⟨_, rfl⟩
  have b7 := iv7_4 hS0.1 ta0 c6
  have p8 := pre1
  rw [c6] at p8
  obtain ⟨v9, c10⟩ : ∃ v, I0 a0 3 = v := ⟨_, rfl⟩
  have b11 := iv7_3 hS0.1 ta0 c10
  have p12 := pre2
  rw [c10] at p12
  obtain ⟨y13, c14⟩ : ∃ v, L0 a0 5 = v := ⟨_, rfl⟩
  have p15 := pre3
  rw [c14] at p15
  obtain ⟨v16, c17⟩ : ∃ v, I0 a0 6 = v := ⟨_, rfl⟩
  have p18 := pre4
  rw [c17] at p18
  obtain ⟨v19, c20⟩ : ∃ v, I0 a0 1 = v := ⟨_, rfl⟩
  have b21 := iv7_1 hW0 ta0 c20
  have p22 := pre5
  rw [c20] at p22
  obtain ⟨a23, d24, ta23⟩ := rf7_10 hW0 ta0
  obtain ⟨v25, c26⟩ : ∃ v, I0 a23 1 = v := ⟨_, rfl⟩
  have b27 := iv2_1 hW0 ta23 c26
  have p28 := pre6 _ d24
  rw [c26] at p28
  obtain ⟨v29, c30⟩ : ∃ v, I0 a23 5 = v := ⟨_, rfl⟩
  have b31 := iv2_5 hS0.1 ta23 c30
  have p32 := pre7 _ d24
  rw [c30] at p32
  obtain ⟨v33, c34⟩ : ∃ v, I0 a23 9 = v := ⟨_, rfl⟩
  have b35 := iv2_9 hW0 ta23 c34
  have p36 := pre8 _ d24
  rw [c34] at p36
  have p37 := pre9
  have p38 := pre10
  obtain ⟨v39, c40⟩ : ∃ v, I0 a0 15 = v := ⟨_, rfl⟩
  have hF := chF_ch gB gQ gs
  have hP := chP_ch gB gQ gs
  refine tr_aload_n dX7_readCheese_0 rfl ?_
  refine q_callVi hE (M' := mX7_seesNewName) (as := []) dX7_readCheese_1 lk7_231 inX7_seesNewName seX7_seesNewName myX7_seesNewName (by decide) ⟨by decide, by decide⟩ rfl (kR7 hS0.1 ta0) (Nat.le_of_ble_eq_true rfl) rfl rfl (by decide) (by decide) (fk_X7_seesNewName hS0.1 (gB) (gs) (gQ) ta0 hN (by (try rw [c6]); first | done | omega) (by (try rw [c10]); first | done | omega) (by (try rw [c14]); first | done | assumption) (fun q0 z0 => by obtain rfl := Option.some.inj ((d24).symm.trans z0); (try rw [c30]); first | done | omega) (fun q0 z0 => by obtain rfl := Option.some.inj ((d24).symm.trans z0); (try rw [c34]); first | done | omega)) ?_
  rintro v46 cn' K' N' I41 R42 L43 ⟨rfl, rfl, rfl, rfl, rfl, g44, h47, dj48, -⟩
  have hS49 := hS0.tr g44 (by decide +kernel) (by decide +kernel)
  have c50 : I41 a0 2 = v1 := (g44.cell ta0 (by decide +kernel)).trans c2
  have c51 : I41 a0 4 = v5 := (g44.cell ta0 (by decide +kernel)).trans c6
  have c52 : I41 a0 3 = v9 := (g44.cell ta0 (by decide +kernel)).trans c10
  have c53 : I41 a0 6 = v16 := (g44.cell ta0 (by decide +kernel)).trans c17
  have c54 : I41 a23 5 = v29 := (g44.cell ta23 (by decide +kernel)).trans c30
  rcases dj48 with ⟨p55, p56, p57, p58, p59, p60, -⟩ | ⟨p61, p62, p63, p64, -⟩ | ⟨p65, p66, p67, p68, p69, -⟩
  · skip
    obtain ⟨v70, c71⟩ : ∃ v, I41 a0 15 = v := ⟨_, rfl⟩
    rw [c71] at p56
    rw [c40] at p56
    replace hF := hF.neg (by omega)
    replace hP := hP.neg (by omega)
    replace hF := hF.neg (by omega)
    replace hP := hP.neg (by omega)
    refine q_if_ne 9 dX7_readCheese_4 (by decide) (fun h72 => ?_) (fun h72 => ?_)
    · skip
      refine tr_aload_n dX7_readCheese_9 rfl ?_
      refine tr_getR dX7_readCheese_10 fl7_22 (kR7 hS49.1 ta0) d24 ?_
      refine q_getI dX7_readCheese_13 fl7_61 (kR2 hS49.1 ta23) c54 ?_
      refine tr_istore_n dX7_readCheese_16 (by decide) (by decide) ?_
      refine tr_aload_n dX7_readCheese_17 rfl ?_
      obtain ⟨a73, d74, ta73⟩ := rf7_13 hW0 ta0
      refine tr_getR dX7_readCheese_18 fl7_9 (kR7 hS49.1 ta0) d74 ?_
      refine tr_iload_n dX7_readCheese_21 rfl ?_
      refine tr_aload_n dX7_readCheese_22 rfl ?_
      have p75 := p15 (by omega)
      refine q_getLE dX7_readCheese_23 fl7_78 (kR7 hS49.1 ta0) c14 ?_
      refine q_lastE dX7_readCheese_26 (kR25 hS49.1 ta73) (ti_in (nR25 hS49.1 ta73) (by omega) (by omega)) hL0 ta73 (by rfl) ?_
      intro L76 hL77 e78 f79
      have c80 : L76 a0 5 = y13 := (f79 _ _ (fun q => by have z := ta0; rw [q.1, ta73] at z; exact absurd z (by decide))).trans c14
      have hN81 : NmC L76 R0 a0 gQ := NmC.w13 hN hS49.1 ta0 d74 f79 (by have q := ti_nat (i := v29) (by omega); omega)
      refine tr_aload_n dX7_readCheese_27 rfl ?_
      refine q_callVv hE (M' := mX7_step) (as := []) dX7_readCheese_28 lk7_51 inX7_step seX7_step myX7_step (by decide) ⟨by decide, by decide⟩ rfl (kR7 hS49.1 ta0) (Nat.le_of_ble_eq_true rfl) rfl rfl (by decide) (by decide) (fk_X7_step hS49.1 (gB) ((tkN gB gs)) ta0 (TxA.kp hT hS49 ta0 rfl rfl rfl (by decide +kernel) (by decide +kernel)) (by (try rw [c50]); first | done | omega) (by (try rw [((hS49.cell ta0 (by decide +kernel)).trans c20)]); first | done | omega)) ?_
      rintro cn' K' N' I82 R83 L84 ⟨rfl, rfl, rfl, rfl, g85, gl86, p88, p89, p90, p91, p92, -⟩
      have hS93 := hS49.tr g85 (by decide +kernel) (by decide +kernel)
      have c94 : I82 a23 5 = v29 := (g85.cell ta23 (by decide +kernel)).trans c54
      have c95 : I82 a0 15 = v70 := (g85.cell ta0 (by decide +kernel)).trans c71
      have hL96 := hL77.tr gl86 (by decide +kernel)
      have c97 : L84 a73 v29.toNatClampNeg = y13 := (gl86.cell ta73 (wm_no (by decide +kernel))).trans e78
      have hN98 : NmC L84 R0 a0 gQ := NmC.kp hN81 gl86 hS93.1 ta0 (by decide +kernel) (by decide +kernel)
      obtain ⟨v99, c100⟩ : ∃ v, I82 a0 2 = v := ⟨_, rfl⟩
      have b101 := iv7_2 hS93.1 ta0 c100
      rw [c100] at p88
      obtain ⟨v102, c103⟩ : ∃ v, I82 a0 4 = v := ⟨_, rfl⟩
      have b104 := iv7_4 hS93.1 ta0 c103
      rw [c103] at p89
      obtain ⟨v105, c106⟩ : ∃ v, I82 a0 3 = v := ⟨_, rfl⟩
      have b107 := iv7_3 hS93.1 ta0 c106
      rw [c106] at p90
      obtain ⟨y108, c109⟩ : ∃ v, L84 a0 5 = v := ⟨_, rfl⟩
      rw [c109] at p91
      obtain ⟨v110, c111⟩ : ∃ v, I82 a0 6 = v := ⟨_, rfl⟩
      rw [c111] at p92
      refine tr_aload_n dX7_readCheese_31 rfl ?_
      refine tr_ldcS dX7_readCheese_32 ld7_234 ?_
      refine q_callVi hE (M' := mX7_takeWord) (as := [_]) dX7_readCheese_34 lk7_126 inX7_takeWord seX7_takeWord myX7_takeWord (by decide) ⟨by decide, by decide⟩ rfl (kR7 hS93.1 ta0) (Nat.le_of_ble_eq_true rfl) rfl rfl (by decide) (by decide) (fk_X7_takeWord hS93.1 (gB) ((tkN gB gs)) ta0 (by decide) (TxA.kp hT hS93 ta0 rfl rfl rfl (by decide +kernel) (by decide +kernel)) (by (try rw [c100]); first | done | omega) (by (try rw [c103]); first | done | omega) (by (try rw [c106]); first | done | omega) (by (try rw [c109]); first | done | assumption) (by (try rw [c111]); first | done | assumption) (by (try rw [((hS93.cell ta0 (by decide +kernel)).trans c20)]); first | done | omega)) ?_
      rintro v117 cn' K' N' I112 R113 L114 ⟨rfl, rfl, rfl, rfl, g115, gl116, h118, dj119, -⟩
      (try rw [pk_15] at dj119)
      have hS120 := hS93.tr g115 (by decide +kernel) (by decide +kernel)
      have c121 : I112 a23 5 = v29 := (g115.cell ta23 (by decide +kernel)).trans c94
      have hL122 := hL96.tr gl116 (by decide +kernel)
      have c123 : L114 a73 v29.toNatClampNeg = y13 := (gl116.cell ta73 (wm_no (by decide +kernel))).trans c97
      have hN124 : NmC L114 R0 a0 gQ := NmC.kp hN98 gl116 hS120.1 ta0 (by decide +kernel) (by decide +kernel)
      rcases dj119 with ⟨p125, p126, p127, p128, p129, p130, p131, p132, p133, -⟩ | ⟨p134, p135, p136, p137, -⟩
      · skip
        obtain ⟨v138, c139⟩ : ∃ v, I112 a0 15 = v := ⟨_, rfl⟩
        rw [c139] at p126
        rw [c95] at p126
        obtain ⟨v140, c141⟩ : ∃ v, I112 a0 2 = v := ⟨_, rfl⟩
        have b142 := iv7_2 hS120.1 ta0 c141
        rw [c141] at p129
        obtain ⟨v143, c144⟩ : ∃ v, I112 a0 4 = v := ⟨_, rfl⟩
        have b145 := iv7_4 hS120.1 ta0 c144
        rw [c144] at p130
        obtain ⟨v146, c147⟩ : ∃ v, I112 a0 3 = v := ⟨_, rfl⟩
        have b148 := iv7_3 hS120.1 ta0 c147
        rw [c147] at p131
        obtain ⟨y149, c150⟩ : ∃ v, L114 a0 5 = v := ⟨_, rfl⟩
        rw [c150] at p132
        obtain ⟨v151, c152⟩ : ∃ v, I112 a0 6 = v := ⟨_, rfl⟩
        rw [c152] at p133
        replace hF := hF.neg (by omega)
        replace hP := hP.neg (by omega)
        refine q_if_eq 47 dX7_readCheese_37 (by decide) (fun h153 => ?_) (fun h153 => ?_)
        · skip
          exfalso; omega
        · skip
          refine tr_aload_n dX7_readCheese_40 rfl ?_
          refine q_callVi hE (M' := mX7_takeHut) (as := []) dX7_readCheese_41 lk7_223 inX7_takeHut seX7_takeHut myX7_takeHut (by decide) ⟨by decide, by decide⟩ rfl (kR7 hS120.1 ta0) (Nat.le_of_ble_eq_true rfl) rfl rfl (by decide) (by decide) (fk_X7_takeHut hS120.1 (gB) ((tkN gB (tkN gB gs))) (gQ) ta0 (TxA.kp hT hS120 ta0 rfl rfl rfl (by decide +kernel) (by decide +kernel)) (by (try rw [c141]); first | done | omega) (by (try rw [c144]); first | done | omega) (by (try rw [c147]); first | done | omega) (by (try rw [c150]); first | done | assumption) (by (try rw [c152]); first | done | assumption) (by (try rw [((hS120.cell ta0 (by decide +kernel)).trans c20)]); first | done | omega) (fun q0 z0 => by obtain rfl := Option.some.inj ((d24).symm.trans z0); (try rw [((hS120.cell ta23 (by decide +kernel)).trans c26)]); first | done | omega)) ?_
          rintro v159 cn' K' N' I154 R155 L156 ⟨rfl, rfl, rfl, rfl, g157, gl158, h160, dj161, -⟩
          have hS162 := hS120.tr g157 (by decide +kernel) (by decide +kernel)
          have c163 : I154 a23 5 = v29 := (g157.cell ta23 (by decide +kernel)).trans c121
          have hL164 := hL122.tr gl158 (by decide +kernel)
          have c165 : L156 a73 v29.toNatClampNeg = y13 := (gl158.cell ta73 (wm_no (by decide +kernel))).trans c123
          have hN166 : NmC L156 R0 a0 gQ := NmC.kp hN124 gl158 hS162.1 ta0 (by decide +kernel) (by decide +kernel)
          rcases dj161 with ⟨p167, p168, p169, p170, p171, p172, p173, p174, p175, p176, p177, -⟩ | ⟨p178, p179, p180, p181, -⟩ | ⟨p182, p183, p184, p185, p186, -⟩
          · skip
            obtain ⟨v187, c188⟩ : ∃ v, I154 a0 15 = v := ⟨_, rfl⟩
            rw [c188] at p168
            rw [c139] at p168
            obtain ⟨v189, c190⟩ : ∃ v, I154 a0 7 = v := ⟨_, rfl⟩
            have b191 := iv7_7 hS162.1 ta0 c190
            rw [c190] at p172
            obtain ⟨v192, c193⟩ : ∃ v, I154 a0 2 = v := ⟨_, rfl⟩
            have b194 := iv7_2 hS162.1 ta0 c193
            rw [c193] at p173
            obtain ⟨v195, c196⟩ : ∃ v, I154 a0 4 = v := ⟨_, rfl⟩
            have b197 := iv7_4 hS162.1 ta0 c196
            rw [c196] at p174
            obtain ⟨v198, c199⟩ : ∃ v, I154 a0 3 = v := ⟨_, rfl⟩
            have b200 := iv7_3 hS162.1 ta0 c199
            rw [c199] at p175
            obtain ⟨y201, c202⟩ : ∃ v, L156 a0 5 = v := ⟨_, rfl⟩
            rw [c202] at p176
            obtain ⟨v203, c204⟩ : ∃ v, I154 a0 6 = v := ⟨_, rfl⟩
            rw [c204] at p177
            replace hF := hF.neg (by omega)
            replace hP := hP.neg (by omega)
            replace hF := hF.neg (by omega)
            replace hP := hP.neg (by omega)
            refine q_if_ne 49 dX7_readCheese_44 (by decide) (fun h205 => ?_) (fun h205 => ?_)
            · skip
              refine tr_aload_n dX7_readCheese_49 rfl ?_
              refine tr_getR dX7_readCheese_50 fl7_22 (kR7 hS162.1 ta0) d24 ?_
              obtain ⟨a206, d207, ta206⟩ := rf2_6 hW0 ta23
              refine tr_getR dX7_readCheese_53 fl7_235 (kR2 hS162.1 ta23) d207 ?_
              refine tr_iload_n dX7_readCheese_56 rfl ?_
              refine tr_aload_n dX7_readCheese_57 rfl ?_
              refine q_getI dX7_readCheese_58 fl7_109 (kR7 hS162.1 ta0) c190 ?_
              refine q_iast dX7_readCheese_61 (kR20 hS162.1 ta206) (ti_in (nR20 hS162.1 ta206) (by omega) (by omega)) hS162 ta206 (iokF rfl) rfl (by rfl) ?_
              intro I208 hS209 e211 f210
              have c212 : I208 a23 5 = v29 := (f210 _ _ (fun q => by have z := ta23; rw [q.1, ta206] at z; exact absurd z (by decide))).trans c163
              have c213 : I208 a0 15 = v187 := (f210 _ _ (fun q => by have z := ta0; rw [q.1, ta206] at z; exact absurd z (by decide))).trans c188
              have c214 : I208 a0 7 = v189 := (f210 _ _ (fun q => by have z := ta0; rw [q.1, ta206] at z; exact absurd z (by decide))).trans c190
              have c215 : I208 a0 2 = v192 := (f210 _ _ (fun q => by have z := ta0; rw [q.1, ta206] at z; exact absurd z (by decide))).trans c193
              have c216 : I208 a0 4 = v195 := (f210 _ _ (fun q => by have z := ta0; rw [q.1, ta206] at z; exact absurd z (by decide))).trans c196
              have c217 : I208 a0 3 = v198 := (f210 _ _ (fun q => by have z := ta0; rw [q.1, ta206] at z; exact absurd z (by decide))).trans c199
              have c218 : I208 a0 6 = v203 := (f210 _ _ (fun q => by have z := ta0; rw [q.1, ta206] at z; exact absurd z (by decide))).trans c204
              refine tr_aload_n dX7_readCheese_62 rfl ?_
              refine tr_ldcS dX7_readCheese_63 ld7_238 ?_
              refine q_callVi hE (M' := mX7_seesWord) (as := [_]) dX7_readCheese_65 lk7_101 inX7_seesWord seX7_seesWord myX7_seesWord (by decide) ⟨by decide, by decide⟩ rfl (kR7 hS209.1 ta0) (Nat.le_of_ble_eq_true rfl) rfl rfl (by decide) (by decide) (fk_X7_seesWord hS209.1 (gB) ((tkN gB (tkN gB (tkN gB gs)))) ta0 (by decide) (by (try rw [c217]); first | done | omega) (by (try rw [c202]); first | done | assumption)) ?_
              rintro v224 cn' K' N' I219 R220 L221 ⟨rfl, rfl, rfl, rfl, rfl, rfl, h225, dj226, -⟩
              (try rw [pk_10] at dj226)
              rcases dj226 with ⟨p227, p228, p229, -⟩ | ⟨p230, p231, -⟩
              · skip
                refine q_if_eq 78 dX7_readCheese_68 (by decide) (fun h232 => ?_) (fun h232 => ?_)
                · skip
                  exfalso; omega
                · skip
                  refine tr_aload_n dX7_readCheese_71 rfl ?_
                  refine q_callVv hE (M' := mX7_step) (as := []) dX7_readCheese_72 lk7_51 inX7_step seX7_step myX7_step (by decide) ⟨by decide, by decide⟩ rfl (kR7 hS209.1 ta0) (Nat.le_of_ble_eq_true rfl) rfl rfl (by decide) (by decide) (fk_X7_step hS209.1 (gB) ((tkN gB (tkN gB (tkN gB (tkN gB gs))))) ta0 (TxA.kp hT hS209 ta0 rfl rfl rfl (by decide +kernel) (by decide +kernel)) (by (try rw [c215]); first | done | omega) (by (try rw [((hS209.cell ta0 (by decide +kernel)).trans c20)]); first | done | omega)) ?_
                  rintro cn' K' N' I233 R234 L235 ⟨rfl, rfl, rfl, rfl, g236, gl237, p239, p240, p241, p242, p243, -⟩
                  have hS244 := hS209.tr g236 (by decide +kernel) (by decide +kernel)
                  have c245 : I233 a23 5 = v29 := (g236.cell ta23 (by decide +kernel)).trans c212
                  have c246 : I233 a0 15 = v187 := (g236.cell ta0 (by decide +kernel)).trans c213
                  have c247 : I233 a0 7 = v189 := (g236.cell ta0 (by decide +kernel)).trans c214
                  have hL248 := hL164.tr gl237 (by decide +kernel)
                  have c249 : L235 a73 v29.toNatClampNeg = y13 := (gl237.cell ta73 (wm_no (by decide +kernel))).trans c165
                  have hN250 : NmC L235 R0 a0 gQ := NmC.kp hN166 gl237 hS244.1 ta0 (by decide +kernel) (by decide +kernel)
                  obtain ⟨v251, c252⟩ : ∃ v, I233 a0 2 = v := ⟨_, rfl⟩
                  have b253 := iv7_2 hS244.1 ta0 c252
                  rw [c252] at p239
                  obtain ⟨v254, c255⟩ : ∃ v, I233 a0 4 = v := ⟨_, rfl⟩
                  have b256 := iv7_4 hS244.1 ta0 c255
                  rw [c255] at p240
                  obtain ⟨v257, c258⟩ : ∃ v, I233 a0 3 = v := ⟨_, rfl⟩
                  have b259 := iv7_3 hS244.1 ta0 c258
                  rw [c258] at p241
                  obtain ⟨y260, c261⟩ : ∃ v, L235 a0 5 = v := ⟨_, rfl⟩
                  rw [c261] at p242
                  obtain ⟨v262, c263⟩ : ∃ v, I233 a0 6 = v := ⟨_, rfl⟩
                  rw [c263] at p243
                  refine tr_goto 93 dX7_readCheese_75 (by decide) ?_
                  refine tr_aload_n dX7_readCheese_93 rfl ?_
                  refine tr_getR dX7_readCheese_94 fl7_22 (kR7 hS244.1 ta0) d24 ?_
                  refine tr_dup dX7_readCheese_97 rfl ?_
                  refine q_getI dX7_readCheese_98 fl7_61 (kR2 hS244.1 ta23) c245 ?_
                  refine q_iconst dX7_readCheese_101 (by decide) ?_
                  intro v264 h265
                  refine q_iaddE dX7_readCheese_102 (by intros; omega) ?_
                  intro v266 h267
                  refine q_putI dX7_readCheese_103 fl7_61 (kR2 hS244.1 ta23) (Or.inl rfl) hS244 ta23 (by show (0 : Int) ≤ v266.toInt ∧ v266.toInt ≤ (8 : Int); omega) rfl (by decide +kernel) ?_
                  intro I268 hS269 e270 f271
                  have c272 : I268 a0 15 = v187 := (f271 _ _ (fun q => absurd q.2 (by decide))).trans c246
                  have c273 : I268 a0 7 = v189 := (f271 _ _ (fun q => absurd q.2 (by decide))).trans c247
                  have c274 : I268 a0 2 = v251 := (f271 _ _ (fun q => absurd q.2 (by decide))).trans c252
                  have c275 : I268 a0 4 = v254 := (f271 _ _ (fun q => absurd q.2 (by decide))).trans c255
                  have c276 : I268 a0 3 = v257 := (f271 _ _ (fun q => absurd q.2 (by decide))).trans c258
                  have c277 : I268 a0 6 = v262 := (f271 _ _ (fun q => absurd q.2 (by decide))).trans c263
                  refine q_iconst dX7_readCheese_106 (by decide) ?_
                  intro v278 h279
                  have eF := hF.eq
                  have eP := hP.eq
                  have es280 : chS gB gQ gs = (tkN gB (tkN gB (tkN gB (tkN gB gs)))) := by simp only [chS, ↓reduceIte]; repeat' (first | split | omega)
                  obtain ⟨v281, c282⟩ : ∃ v, I268 a0 16 = v := ⟨_, rfl⟩
                  exact tr_zret hZ dX7_readCheese_107 rfl (ti_b01 (by omega) (by omega)) (by decide) (by decide) ⟨v278, rfl, rfl, rfl, rfl, rfl, hS269, hL248, (by omega), (Or.inl ⟨(by (try rw [es280]); first | done | omega), (by (try rw [es280]); (try rw [c272]); (try rw [c40]); first | done | omega), (by (try rw [es280]); first | done | omega), (fun q0 z0 => by obtain rfl := Option.some.inj ((d24).symm.trans z0); (try rw [es280]); (try rw [e270]); first | done | omega), (by (try rw [es280]); (try rw [c274]); first | done | omega), (by (try rw [es280]); (try rw [c275]); first | done | omega), (by (try rw [es280]); (try rw [c276]); first | done | omega), (by (try rw [es280]); (try rw [c261]); first | done | assumption), (by (try rw [es280]); (try rw [c277]); first | done | assumption), (NmC.up3 hN250 d74 (by rw [c249]; omega) (by have q := ti_nat (i := v29) (by omega); omega) (by omega) (by omega)), trivial⟩), trivial⟩
              · skip
                refine q_if_eq 78 dX7_readCheese_68 (by decide) (fun h283 => ?_) (fun h283 => ?_)
                · skip
                  refine tr_aload_n dX7_readCheese_78 rfl ?_
                  refine tr_getR dX7_readCheese_79 fl7_22 (kR7 hS209.1 ta0) d24 ?_
                  refine tr_dup dX7_readCheese_82 rfl ?_
                  obtain ⟨v284, c285⟩ : ∃ v, I208 a23 7 = v := ⟨_, rfl⟩
                  refine q_getI dX7_readCheese_83 fl7_240 (kR2 hS209.1 ta23) c285 ?_
                  refine q_iconst dX7_readCheese_86 (by decide) ?_
                  intro v286 h287
                  refine tr_iload_n dX7_readCheese_87 rfl ?_
                  refine q_ishl dX7_readCheese_88 ?_
                  intro v288
                  refine q_ior dX7_readCheese_89 ?_
                  intro v289
                  refine q_putI dX7_readCheese_90 fl7_240 (kR2 hS209.1 ta23) (Or.inl rfl) hS209 ta23 (iokF rfl) rfl (by decide +kernel) ?_
                  intro I290 hS291 e292 f293
                  have c294 : I290 a23 5 = v29 := (f293 _ _ (fun q => absurd q.2 (by decide))).trans c212
                  have c295 : I290 a0 15 = v187 := (f293 _ _ (fun q => absurd q.2 (by decide))).trans c213
                  have c296 : I290 a0 7 = v189 := (f293 _ _ (fun q => by have z := ta0; rw [q.1, ta23] at z; exact absurd z (by decide))).trans c214
                  have c297 : I290 a0 2 = v192 := (f293 _ _ (fun q => absurd q.2 (by decide))).trans c215
                  have c298 : I290 a0 4 = v195 := (f293 _ _ (fun q => absurd q.2 (by decide))).trans c216
                  have c299 : I290 a0 3 = v198 := (f293 _ _ (fun q => absurd q.2 (by decide))).trans c217
                  have c300 : I290 a0 6 = v203 := (f293 _ _ (fun q => absurd q.2 (by decide))).trans c218
                  refine tr_aload_n dX7_readCheese_93 rfl ?_
                  refine tr_getR dX7_readCheese_94 fl7_22 (kR7 hS291.1 ta0) d24 ?_
                  refine tr_dup dX7_readCheese_97 rfl ?_
                  refine q_getI dX7_readCheese_98 fl7_61 (kR2 hS291.1 ta23) c294 ?_
                  refine q_iconst dX7_readCheese_101 (by decide) ?_
                  intro v301 h302
                  refine q_iaddE dX7_readCheese_102 (by intros; omega) ?_
                  intro v303 h304
                  refine q_putI dX7_readCheese_103 fl7_61 (kR2 hS291.1 ta23) (Or.inl rfl) hS291 ta23 (by show (0 : Int) ≤ v303.toInt ∧ v303.toInt ≤ (8 : Int); omega) rfl (by decide +kernel) ?_
                  intro I305 hS306 e307 f308
                  have c309 : I305 a0 15 = v187 := (f308 _ _ (fun q => absurd q.2 (by decide))).trans c295
                  have c310 : I305 a0 7 = v189 := (f308 _ _ (fun q => absurd q.2 (by decide))).trans c296
                  have c311 : I305 a0 2 = v192 := (f308 _ _ (fun q => absurd q.2 (by decide))).trans c297
                  have c312 : I305 a0 4 = v195 := (f308 _ _ (fun q => absurd q.2 (by decide))).trans c298
                  have c313 : I305 a0 3 = v198 := (f308 _ _ (fun q => absurd q.2 (by decide))).trans c299
                  have c314 : I305 a0 6 = v203 := (f308 _ _ (fun q => absurd q.2 (by decide))).trans c300
                  have c315 : I305 a23 7 = v289 := (f308 _ _ (fun q => absurd q.2 (by decide))).trans e292
                  refine q_iconst dX7_readCheese_106 (by decide) ?_
                  intro v316 h317
                  have eF := hF.eq
                  have eP := hP.eq
                  have es318 : chS gB gQ gs = (tkN gB (tkN gB (tkN gB gs))) := by simp only [chS, ↓reduceIte]; repeat' (first | split | omega)
                  obtain ⟨v319, c320⟩ : ∃ v, I305 a0 16 = v := ⟨_, rfl⟩
                  exact tr_zret hZ dX7_readCheese_107 rfl (ti_b01 (by omega) (by omega)) (by decide) (by decide) ⟨v316, rfl, rfl, rfl, rfl, rfl, hS306, hL164, (by omega), (Or.inl ⟨(by (try rw [es318]); first | done | omega), (by (try rw [es318]); (try rw [c309]); (try rw [c40]); first | done | omega), (by (try rw [es318]); first | done | omega), (fun q0 z0 => by obtain rfl := Option.some.inj ((d24).symm.trans z0); (try rw [es318]); (try rw [e307]); first | done | omega), (by (try rw [es318]); (try rw [c311]); first | done | omega), (by (try rw [es318]); (try rw [c312]); first | done | omega), (by (try rw [es318]); (try rw [c313]); first | done | omega), (by (try rw [es318]); (try rw [c202]); first | done | assumption), (by (try rw [es318]); (try rw [c314]); first | done | assumption), (NmC.up3 hN166 d74 (by rw [c165]; omega) (by have q := ti_nat (i := v29) (by omega); omega) (by omega) (by omega)), trivial⟩), trivial⟩
                · skip
                  exfalso; omega
            · skip
              exfalso; omega
          · skip
            obtain ⟨v321, c322⟩ : ∃ v, I154 a0 15 = v := ⟨_, rfl⟩
            rw [c322] at p180
            obtain ⟨v323, c324⟩ : ∃ v, I154 a0 16 = v := ⟨_, rfl⟩
            rw [c324] at p181
            replace hF := hF.pos (by omega)
            replace hP := hP.pos (by omega)
            refine q_if_ne 49 dX7_readCheese_44 (by decide) (fun h325 => ?_) (fun h325 => ?_)
            · skip
              exfalso; omega
            · skip
              refine q_iconst dX7_readCheese_47 (by decide) ?_
              intro v326 h327
              have eF := hF.eq
              have eP := hP.eq
              obtain ⟨v328, c329⟩ : ∃ v, I154 a0 2 = v := ⟨_, rfl⟩
              have b330 := iv7_2 hS162.1 ta0 c329
              obtain ⟨v331, c332⟩ : ∃ v, I154 a0 4 = v := ⟨_, rfl⟩
              have b333 := iv7_4 hS162.1 ta0 c332
              obtain ⟨v334, c335⟩ : ∃ v, I154 a0 3 = v := ⟨_, rfl⟩
              have b336 := iv7_3 hS162.1 ta0 c335
              obtain ⟨y337, c338⟩ : ∃ v, L156 a0 5 = v := ⟨_, rfl⟩
              obtain ⟨v339, c340⟩ : ∃ v, I154 a0 6 = v := ⟨_, rfl⟩
              exact tr_zret hZ dX7_readCheese_48 rfl (ti_b01 (by omega) (by omega)) (by decide) (by decide) ⟨v326, rfl, rfl, rfl, rfl, rfl, hS162, hL164, (by omega), (Or.inr (⟨(by first | done | omega), (by first | done | omega), (by (try rw [c322]); first | done | omega), (by (try rw [c324]); first | done | omega), trivial⟩)), trivial⟩
          · skip
            obtain ⟨v341, c342⟩ : ∃ v, I154 a0 15 = v := ⟨_, rfl⟩
            rw [c342] at p185
            obtain ⟨v343, c344⟩ : ∃ v, I154 a0 16 = v := ⟨_, rfl⟩
            rw [c344] at p186
            replace hF := hF.neg (by omega)
            replace hP := hP.neg (by omega)
            replace hF := hF.pos (by omega)
            replace hP := hP.pos (by omega)
            refine q_if_ne 49 dX7_readCheese_44 (by decide) (fun h345 => ?_) (fun h345 => ?_)
            · skip
              exfalso; omega
            · skip
              refine q_iconst dX7_readCheese_47 (by decide) ?_
              intro v346 h347
              have eF := hF.eq
              have eP := hP.eq
              obtain ⟨v348, c349⟩ : ∃ v, I154 a0 2 = v := ⟨_, rfl⟩
              have b350 := iv7_2 hS162.1 ta0 c349
              obtain ⟨v351, c352⟩ : ∃ v, I154 a0 4 = v := ⟨_, rfl⟩
              have b353 := iv7_4 hS162.1 ta0 c352
              obtain ⟨v354, c355⟩ : ∃ v, I154 a0 3 = v := ⟨_, rfl⟩
              have b356 := iv7_3 hS162.1 ta0 c355
              obtain ⟨y357, c358⟩ : ∃ v, L156 a0 5 = v := ⟨_, rfl⟩
              obtain ⟨v359, c360⟩ : ∃ v, I154 a0 6 = v := ⟨_, rfl⟩
              exact tr_zret hZ dX7_readCheese_48 rfl (ti_b01 (by omega) (by omega)) (by decide) (by decide) ⟨v346, rfl, rfl, rfl, rfl, rfl, hS162, hL164, (by omega), (Or.inr (⟨(by first | done | omega), (by first | done | omega), (by (try rw [c342]); first | done | omega), (by (try rw [c344]); first | done | omega), trivial⟩)), trivial⟩
      · skip
        obtain ⟨v361, c362⟩ : ∃ v, I112 a0 15 = v := ⟨_, rfl⟩
        rw [c362] at p136
        obtain ⟨v363, c364⟩ : ∃ v, I112 a0 16 = v := ⟨_, rfl⟩
        rw [c364] at p137
        replace hF := hF.pos (by omega)
        replace hP := hP.pos (by omega)
        refine q_if_eq 47 dX7_readCheese_37 (by decide) (fun h365 => ?_) (fun h365 => ?_)
        · skip
          refine q_iconst dX7_readCheese_47 (by decide) ?_
          intro v366 h367
          have eF := hF.eq
          have eP := hP.eq
          obtain ⟨v368, c369⟩ : ∃ v, I112 a0 2 = v := ⟨_, rfl⟩
          have b370 := iv7_2 hS120.1 ta0 c369
          obtain ⟨v371, c372⟩ : ∃ v, I112 a0 4 = v := ⟨_, rfl⟩
          have b373 := iv7_4 hS120.1 ta0 c372
          obtain ⟨v374, c375⟩ : ∃ v, I112 a0 3 = v := ⟨_, rfl⟩
          have b376 := iv7_3 hS120.1 ta0 c375
          obtain ⟨y377, c378⟩ : ∃ v, L114 a0 5 = v := ⟨_, rfl⟩
          obtain ⟨v379, c380⟩ : ∃ v, I112 a0 6 = v := ⟨_, rfl⟩
          exact tr_zret hZ dX7_readCheese_48 rfl (ti_b01 (by omega) (by omega)) (by decide) (by decide) ⟨v366, rfl, rfl, rfl, rfl, rfl, hS120, hL122, (by omega), (Or.inr (⟨(by first | done | omega), (by first | done | omega), (by (try rw [c362]); first | done | omega), (by (try rw [c364]); first | done | omega), trivial⟩)), trivial⟩
        · skip
          exfalso; omega
    · skip
      exfalso; omega
  · skip
    obtain ⟨v381, c382⟩ : ∃ v, I41 a0 15 = v := ⟨_, rfl⟩
    rw [c382] at p63
    obtain ⟨v383, c384⟩ : ∃ v, I41 a0 16 = v := ⟨_, rfl⟩
    rw [c384] at p64
    replace hF := hF.pos (by omega)
    replace hP := hP.pos (by omega)
    refine q_if_ne 9 dX7_readCheese_4 (by decide) (fun h385 => ?_) (fun h385 => ?_)
    · skip
      exfalso; omega
    · skip
      refine q_iconst dX7_readCheese_7 (by decide) ?_
      intro v386 h387
      have eF := hF.eq
      have eP := hP.eq
      exact tr_zret hZ dX7_readCheese_8 rfl (ti_b01 (by omega) (by omega)) (by decide) (by decide) ⟨v386, rfl, rfl, rfl, rfl, rfl, hS49, hL0, (by omega), (Or.inr (⟨(by first | done | omega), (by first | done | omega), (by (try rw [c382]); first | done | omega), (by (try rw [c384]); first | done | omega), trivial⟩)), trivial⟩
  · skip
    obtain ⟨v388, c389⟩ : ∃ v, I41 a0 15 = v := ⟨_, rfl⟩
    rw [c389] at p68
    obtain ⟨v390, c391⟩ : ∃ v, I41 a0 16 = v := ⟨_, rfl⟩
    rw [c391] at p69
    replace hF := hF.neg (by omega)
    replace hP := hP.neg (by omega)
    replace hF := hF.pos (by omega)
    replace hP := hP.pos (by omega)
    refine q_if_ne 9 dX7_readCheese_4 (by decide) (fun h392 => ?_) (fun h392 => ?_)
    · skip
      exfalso; omega
    · skip
      refine q_iconst dX7_readCheese_7 (by decide) ?_
      intro v393 h394
      have eF := hF.eq
      have eP := hP.eq
      exact tr_zret hZ dX7_readCheese_8 rfl (ti_b01 (by omega) (by omega)) (by decide) (by decide) ⟨v393, rfl, rfl, rfl, rfl, rfl, hS49, hL0, (by omega), (Or.inr (⟨(by first | done | omega), (by first | done | omega), (by (try rw [c389]); first | done | omega), (by (try rw [c391]); first | done | omega), trivial⟩)), trivial⟩
def wik_X7_readCall : List Nat := [139, 320, 321, 322, 323, 450, 451, 452, 454, 455, 463, 464]
def wrk_X7_readCall : List Nat := []
def wlk_X7_readCall : List Nat := [453]
set_option maxHeartbeats 4000000 in
theorem fk_X7_readCall {l : Launch} {T : Nat → Nat} {cn : Nat} {K N : Nat → Nat} {I0 : cz_I} {R0 : cz_R} {L0 : cz_L} {d : Int} (hW0 : Wf T cn K N I0 R0 d) (gB : cz_B) (gs : Int) (gQ : Nat → Int) {a0 : Nat} (ta0 : T a0 = 7) (hT : ∀ t, R0 a0 0 = some t → Tx I0 t gB) (hN : NmC L0 R0 a0 gQ) (pre0 : (I0 a0 2).toInt = (tkN gB gs)) (pre1 : (I0 a0 4).toInt = (tkS gB gs)) (pre2 : (I0 a0 3).toInt = (tkK gB gs)) (pre3 : (AtW ((tkK gB gs)) ((L0 a0 5).toInt) ((tkW gB gs)))) (pre4 : (AtV ((tkK gB gs)) ((I0 a0 6).toInt) ((tkV gB gs)))) (pre5 : (I0 a0 1).toInt = (gB.2)) (pre6 : ∀ b1, R0 a0 10 = some b1 → (I0 b1 0).toInt = (gQ 0)) (pre7 : ∀ b1, R0 a0 10 = some b1 → (I0 b1 9).toInt = (gQ 4)) (pre8 : ∀ b1, R0 a0 10 = some b1 → (I0 b1 11).toInt = (gQ 5)) (pre9 : (gQ 5) ≤ 5) : ConE l mX7_readCall [.ref a0] cn K N I0 R0 L0 (ca_i (fun v cn' K' N' I' R' L' => cn = cn' ∧ K = K' ∧ N = N' ∧ R0 = R' ∧ St T cn K N d wik_X7_readCall wrk_X7_readCall I0 R0 I' R0 ∧ LgS T wlk_X7_readCall L0 L' ∧ (0 ≤ v.toInt ∧ v.toInt ≤ 1) ∧ (((v.toInt = 1) ∧ ((I' a0 15).toInt = (I0 a0 15).toInt) ∧ ((caF gB gQ gs) = 0) ∧ (∀ b1, R0 a0 10 = some b1 → (I' b1 11).toInt = (gQ 5) + 1) ∧ ((I' a0 2).toInt = (tkN gB (tkN gB (tkN gB (tkN gB (tkN gB (tkN gB (tkN gB (tkN gB gs))))))))) ∧ ((I' a0 4).toInt = (tkS gB (tkN gB (tkN gB (tkN gB (tkN gB (tkN gB (tkN gB (tkN gB gs))))))))) ∧ ((I' a0 3).toInt = (tkK gB (tkN gB (tkN gB (tkN gB (tkN gB (tkN gB (tkN gB (tkN gB gs))))))))) ∧ ((AtW ((tkK gB (tkN gB (tkN gB (tkN gB (tkN gB (tkN gB (tkN gB (tkN gB gs))))))))) ((L' a0 5).toInt) ((tkW gB (tkN gB (tkN gB (tkN gB (tkN gB (tkN gB (tkN gB (tkN gB gs))))))))))) ∧ ((AtV ((tkK gB (tkN gB (tkN gB (tkN gB (tkN gB (tkN gB (tkN gB (tkN gB gs))))))))) ((I' a0 6).toInt) ((tkV gB (tkN gB (tkN gB (tkN gB (tkN gB (tkN gB (tkN gB (tkN gB gs))))))))))) ∧ True) ∨ ((v.toInt = 0) ∧ ((caF gB gQ gs) ≠ 0) ∧ ((I' a0 15).toInt = (caF gB gQ gs)) ∧ ((I' a0 16).toInt = (caP gB gQ gs)) ∧ True)) ∧ True)) := by
  refine ConE.of (by decide +kernel) rfl (Nat.le_of_ble_eq_true rfl) rfl (fun X hX hZ hE => ?_)
  subst hX
  have hS0 : St T cn K N d wik_X7_readCall wrk_X7_readCall I0 R0 I0 R0 := St.rf0 hW0
  have hL0 : LgS T wlk_X7_readCall L0 L0 := LgS.rf0
  obtain ⟨v1, c2⟩ : ∃ v, I0 a0 2 = v := ⟨_, rfl⟩
  have b3 := iv7_2 hS0.1 ta0 c2
  have p4 := pre0
  rw [c2] at p4
  obtain ⟨v5, c6⟩ : ∃ v, I0 a0 4 = v := ⟨_, rfl⟩
  have b7 := iv7_4 hS0.1 ta0 c6
  have p8 := pre1
  rw [c6] at p8
  obtain ⟨v9, c10⟩ : ∃ v, I0 a0 3 = v := ⟨_, rfl⟩
  have b11 := iv7_3 hS0.1 ta0 c10
  have p12 := pre2
  rw [c10] at p12
  obtain ⟨y13, c14⟩ : ∃ v, L0 a0 5 = v := ⟨_, rfl⟩
  have p15 := pre3
  rw [c14] at p15
  obtain ⟨v16, c17⟩ : ∃ v, I0 a0 6 = v := ⟨_, rfl⟩
  have p18 := pre4
  rw [c17] at p18
  obtain ⟨v19, c20⟩ : ∃ v, I0 a0 1 = v := ⟨_, rfl⟩
  have b21 := iv7_1 hW0 ta0 c20
  have p22 := pre5
  rw [c20] at p22
  obtain ⟨a23, d24, ta23⟩ := rf7_10 hW0 ta0
  obtain ⟨v25, c26⟩ : ∃ v, I0 a23 0 = v := ⟨_, rfl⟩
  have b27 := iv2_0 hW0 ta23 c26
  have p28 := pre6 _ d24
  rw [c26] at p28
  obtain ⟨v29, c30⟩ : ∃ v, I0 a23 9 = v := ⟨_, rfl⟩
  have b31 := iv2_9 hW0 ta23 c30
  have p32 := pre7 _ d24
  rw [c30] at p32
  obtain ⟨v33, c34⟩ : ∃ v, I0 a23 11 = v := ⟨_, rfl⟩
  have b35 := iv2_11 hS0.1 ta23 c34
  have p36 := pre8 _ d24
  rw [c34] at p36
  have p37 := pre9
  obtain ⟨v38, c39⟩ : ∃ v, I0 a0 15 = v := ⟨_, rfl⟩
  have hF := caF_ch gB gQ gs
  have hP := caP_ch gB gQ gs
  refine tr_aload_n dX7_readCall_0 rfl ?_
  refine q_callVi hE (M' := mX7_seesName) (as := []) dX7_readCall_1 lk7_279 inX7_seesName seX7_seesName myX7_seesName (by decide) ⟨by decide, by decide⟩ rfl (kR7 hS0.1 ta0) (Nat.le_of_ble_eq_true rfl) rfl rfl (by decide) (by decide) (fk_X7_seesName hS0.1 (gB) (gs) ta0 (by (try rw [c10]); first | done | omega) (by (try rw [c14]); first | done | assumption)) ?_
  rintro v45 cn' K' N' I40 R41 L42 ⟨rfl, rfl, rfl, rfl, rfl, rfl, h46, dj47, -⟩
  rcases dj47 with ⟨p48, p49, p50, -⟩ | ⟨p51, p52, -⟩
  · skip
    replace hF := hF.neg (by omega)
    replace hP := hP.neg (by omega)
    refine q_if_ne 13 dX7_readCall_4 (by decide) (fun h53 => ?_) (fun h53 => ?_)
    · skip
      refine tr_aload_n dX7_readCall_13 rfl ?_
      have p54 := p15 (by omega)
      refine q_callVi hE (M' := mX7_namedTurner) (as := []) dX7_readCall_14 lk7_282 inX7_namedTurner seX7_namedTurner myX7_namedTurner (by decide) ⟨by decide, by decide⟩ rfl (kR7 hS0.1 ta0) (Nat.le_of_ble_eq_true rfl) rfl rfl (by decide) (by decide) (fk_X7_namedTurner hS0.1 ((tkW gB gs)) (gQ) ta0 hN (by (try rw [c14]); first | done | omega) (fun q0 z0 => by obtain rfl := Option.some.inj ((d24).symm.trans z0); (try rw [c30]); first | done | omega)) ?_
      rintro v60 cn' K' N' I55 R56 L57 ⟨rfl, rfl, rfl, rfl, rfl, rfl, h61, p62, -⟩
      refine tr_istore_n dX7_readCall_17 (by decide) (by decide) ?_
      refine tr_iload_n dX7_readCall_18 rfl ?_
      refine q_iconst dX7_readCall_19 (by decide) ?_
      intro v63 h64
      refine q_icmp_ne 29 dX7_readCall_20 (by decide) (fun h65 => ?_) (fun h65 => ?_)
      · skip
        replace hF := hF.neg (by omega)
        replace hP := hP.neg (by omega)
        refine tr_aload_n dX7_readCall_29 rfl ?_
        refine q_callVv hE (M' := mX7_step) (as := []) dX7_readCall_30 lk7_51 inX7_step seX7_step myX7_step (by decide) ⟨by decide, by decide⟩ rfl (kR7 hS0.1 ta0) (Nat.le_of_ble_eq_true rfl) rfl rfl (by decide) (by decide) (fk_X7_step hS0.1 (gB) ((tkN gB gs)) ta0 (TxA.kp hT hS0 ta0 rfl rfl rfl (by decide +kernel) (by decide +kernel)) (by (try rw [c2]); first | done | omega) (by (try rw [c20]); first | done | omega)) ?_
        rintro cn' K' N' I66 R67 L68 ⟨rfl, rfl, rfl, rfl, g69, gl70, p72, p73, p74, p75, p76, -⟩
        have hS77 := hS0.tr g69 (by decide +kernel) (by decide +kernel)
        have c78 : I66 a23 11 = v33 := (g69.cell ta23 (by decide +kernel)).trans c34
        have c79 : I66 a0 15 = v38 := (g69.cell ta0 (by decide +kernel)).trans c39
        have hL80 := hL0.tr gl70 (by decide +kernel)
        have hN81 : NmC L68 R0 a0 gQ := NmC.kp hN gl70 hS77.1 ta0 (by decide +kernel) (by decide +kernel)
        obtain ⟨v82, c83⟩ : ∃ v, I66 a0 2 = v := ⟨_, rfl⟩
        have b84 := iv7_2 hS77.1 ta0 c83
        rw [c83] at p72
        obtain ⟨v85, c86⟩ : ∃ v, I66 a0 4 = v := ⟨_, rfl⟩
        have b87 := iv7_4 hS77.1 ta0 c86
        rw [c86] at p73
        obtain ⟨v88, c89⟩ : ∃ v, I66 a0 3 = v := ⟨_, rfl⟩
        have b90 := iv7_3 hS77.1 ta0 c89
        rw [c89] at p74
        obtain ⟨y91, c92⟩ : ∃ v, L68 a0 5 = v := ⟨_, rfl⟩
        rw [c92] at p75
        obtain ⟨v93, c94⟩ : ∃ v, I66 a0 6 = v := ⟨_, rfl⟩
        rw [c94] at p76
        refine tr_aload_n dX7_readCall_33 rfl ?_
        refine tr_getR dX7_readCall_34 fl7_22 (kR7 hS77.1 ta0) d24 ?_
        obtain ⟨a95, d96, ta95⟩ := rf2_12 hW0 ta23
        refine tr_getR dX7_readCall_37 fl7_285 (kR2 hS77.1 ta23) d96 ?_
        refine tr_aload_n dX7_readCall_40 rfl ?_
        refine tr_getR dX7_readCall_41 fl7_22 (kR7 hS77.1 ta0) d24 ?_
        refine q_getI dX7_readCall_44 fl7_159 (kR2 hS77.1 ta23) c78 ?_
        obtain ⟨a97, d98, ta97⟩ := rf22 hS77.1 ta95 (j := v33.toNatClampNeg) (ti_lt (by omega) (by omega))
        refine tr_aald dX7_readCall_47 (kR22 hS77.1 ta95) (by decide) (by decide) (ti_in (nR22 hS77.1 ta95) (by omega) (by omega)) d98 ?_
        refine tr_astore_n dX7_readCall_48 (by decide) (by decide) ?_
        refine tr_aload_n dX7_readCall_49 rfl ?_
        refine tr_iload_n dX7_readCall_50 rfl ?_
        refine q_putI dX7_readCall_51 fl7_289 (kR5 hS77.1 ta97) (Or.inl rfl) hS77 ta97 (iokF rfl) rfl (by decide +kernel) ?_
        intro I99 hS100 e101 f102
        have c103 : I99 a23 11 = v33 := (f102 _ _ (fun q => absurd q.2 (by decide))).trans c78
        have c104 : I99 a0 15 = v38 := (f102 _ _ (fun q => absurd q.2 (by decide))).trans c79
        have c105 : I99 a0 2 = v82 := (f102 _ _ (fun q => absurd q.2 (by decide))).trans c83
        have c106 : I99 a0 4 = v85 := (f102 _ _ (fun q => absurd q.2 (by decide))).trans c86
        have c107 : I99 a0 3 = v88 := (f102 _ _ (fun q => absurd q.2 (by decide))).trans c89
        have c108 : I99 a0 6 = v93 := (f102 _ _ (fun q => absurd q.2 (by decide))).trans c94
        refine tr_aload_n dX7_readCall_54 rfl ?_
        refine tr_ldcwS dX7_readCall_55 ld7_293 ?_
        refine q_callVi hE (M' := mX7_takeWord) (as := [_]) dX7_readCall_58 lk7_126 inX7_takeWord seX7_takeWord myX7_takeWord (by decide) ⟨by decide, by decide⟩ rfl (kR7 hS100.1 ta0) (Nat.le_of_ble_eq_true rfl) rfl rfl (by decide) (by decide) (fk_X7_takeWord hS100.1 (gB) ((tkN gB gs)) ta0 (by decide) (TxA.kp hT hS100 ta0 rfl rfl rfl (by decide +kernel) (by decide +kernel)) (by (try rw [c105]); first | done | omega) (by (try rw [c106]); first | done | omega) (by (try rw [c107]); first | done | omega) (by (try rw [c92]); first | done | assumption) (by (try rw [c108]); first | done | assumption) (by (try rw [((hS100.cell ta0 (by decide +kernel)).trans c20)]); first | done | omega)) ?_
        rintro v114 cn' K' N' I109 R110 L111 ⟨rfl, rfl, rfl, rfl, g112, gl113, h115, dj116, -⟩
        (try rw [pk_2] at dj116)
        have hS117 := hS100.tr g112 (by decide +kernel) (by decide +kernel)
        have c118 : I109 a23 11 = v33 := (g112.cell ta23 (by decide +kernel)).trans c103
        have c119 : I109 a97 0 = v60 := (g112.cell ta97 (by decide +kernel)).trans e101
        have hL120 := hL80.tr gl113 (by decide +kernel)
        have hN121 : NmC L111 R0 a0 gQ := NmC.kp hN81 gl113 hS117.1 ta0 (by decide +kernel) (by decide +kernel)
        rcases dj116 with ⟨p122, p123, p124, p125, p126, p127, p128, p129, p130, -⟩ | ⟨p131, p132, p133, p134, -⟩
        · skip
          obtain ⟨v135, c136⟩ : ∃ v, I109 a0 15 = v := ⟨_, rfl⟩
          rw [c136] at p123
          rw [c104] at p123
          obtain ⟨v137, c138⟩ : ∃ v, I109 a0 2 = v := ⟨_, rfl⟩
          have b139 := iv7_2 hS117.1 ta0 c138
          rw [c138] at p126
          obtain ⟨v140, c141⟩ : ∃ v, I109 a0 4 = v := ⟨_, rfl⟩
          have b142 := iv7_4 hS117.1 ta0 c141
          rw [c141] at p127
          obtain ⟨v143, c144⟩ : ∃ v, I109 a0 3 = v := ⟨_, rfl⟩
          have b145 := iv7_3 hS117.1 ta0 c144
          rw [c144] at p128
          obtain ⟨y146, c147⟩ : ∃ v, L111 a0 5 = v := ⟨_, rfl⟩
          rw [c147] at p129
          obtain ⟨v148, c149⟩ : ∃ v, I109 a0 6 = v := ⟨_, rfl⟩
          rw [c149] at p130
          replace hF := hF.neg (by omega)
          replace hP := hP.neg (by omega)
          refine q_if_eq 81 dX7_readCall_61 (by decide) (fun h150 => ?_) (fun h150 => ?_)
          · skip
            exfalso; omega
          · skip
            refine tr_aload_n dX7_readCall_64 rfl ?_
            refine q_iconst dX7_readCall_65 (by decide) ?_
            intro v151 h152
            refine tr_aload_n dX7_readCall_66 rfl ?_
            refine tr_getR dX7_readCall_67 fl7_22 (kR7 hS117.1 ta0) d24 ?_
            refine q_getI dX7_readCall_70 fl7_118 (kR2 hS117.1 ta23) ((hS117.cell ta23 (by decide +kernel)).trans c26) ?_
            refine q_iconst dX7_readCall_73 (by decide) ?_
            intro v153 h154
            refine q_isubE dX7_readCall_74 (by intros; omega) ?_
            intro v155 h156
            refine q_callVi hE (M' := mX7_takeWhole) (as := [_, _]) dX7_readCall_75 lk7_115 inX7_takeWhole seX7_takeWhole myX7_takeWhole (by decide) ⟨by decide, by decide⟩ rfl (kR7 hS117.1 ta0) (Nat.le_of_ble_eq_true rfl) rfl rfl (by decide) (by decide) (fk_X7_takeWhole hS117.1 (gB) ((tkN gB (tkN gB gs))) ta0 (by omega) (by omega) (TxA.kp hT hS117 ta0 rfl rfl rfl (by decide +kernel) (by decide +kernel)) (by (try rw [c138]); first | done | omega) (by (try rw [c141]); first | done | omega) (by (try rw [c144]); first | done | omega) (by (try rw [c147]); first | done | assumption) (by (try rw [c149]); first | done | assumption) (by (try rw [((hS117.cell ta0 (by decide +kernel)).trans c20)]); first | done | omega)) ?_
            rintro v162 cn' K' N' I157 R158 L159 ⟨rfl, rfl, rfl, rfl, g160, gl161, h163, dj164, -⟩
            have hS165 := hS117.tr g160 (by decide +kernel) (by decide +kernel)
            have c166 : I157 a23 11 = v33 := (g160.cell ta23 (by decide +kernel)).trans c118
            have c167 : I157 a97 0 = v60 := (g160.cell ta97 (by decide +kernel)).trans c119
            have hL168 := hL120.tr gl161 (by decide +kernel)
            have hN169 : NmC L159 R0 a0 gQ := NmC.kp hN121 gl161 hS165.1 ta0 (by decide +kernel) (by decide +kernel)
            rcases dj164 with ⟨p170, p171, p172, p173, p174, p175, p176, p177, p178, p179, p180, -⟩ | ⟨p181, p182, p183, p184, -⟩ | ⟨p185, p186, p187, p188, p189, -⟩
            · skip
              obtain ⟨v190, c191⟩ : ∃ v, I157 a0 15 = v := ⟨_, rfl⟩
              rw [c191] at p171
              rw [c136] at p171
              obtain ⟨v192, c193⟩ : ∃ v, I157 a0 7 = v := ⟨_, rfl⟩
              have b194 := iv7_7 hS165.1 ta0 c193
              rw [c193] at p175
              obtain ⟨v195, c196⟩ : ∃ v, I157 a0 2 = v := ⟨_, rfl⟩
              have b197 := iv7_2 hS165.1 ta0 c196
              rw [c196] at p176
              obtain ⟨v198, c199⟩ : ∃ v, I157 a0 4 = v := ⟨_, rfl⟩
              have b200 := iv7_4 hS165.1 ta0 c199
              rw [c199] at p177
              obtain ⟨v201, c202⟩ : ∃ v, I157 a0 3 = v := ⟨_, rfl⟩
              have b203 := iv7_3 hS165.1 ta0 c202
              rw [c202] at p178
              obtain ⟨y204, c205⟩ : ∃ v, L159 a0 5 = v := ⟨_, rfl⟩
              rw [c205] at p179
              obtain ⟨v206, c207⟩ : ∃ v, I157 a0 6 = v := ⟨_, rfl⟩
              rw [c207] at p180
              replace hF := hF.neg (by omega)
              replace hP := hP.neg (by omega)
              replace hF := hF.neg (by omega)
              replace hP := hP.neg (by omega)
              refine q_if_ne 83 dX7_readCall_78 (by decide) (fun h208 => ?_) (fun h208 => ?_)
              · skip
                refine tr_aload_n dX7_readCall_83 rfl ?_
                refine tr_aload_n dX7_readCall_84 rfl ?_
                refine q_getI dX7_readCall_85 fl7_109 (kR7 hS165.1 ta0) c193 ?_
                refine q_putI dX7_readCall_88 fl7_295 (kR5 hS165.1 ta97) (Or.inl rfl) hS165 ta97 (iokF rfl) rfl (by decide +kernel) ?_
                intro I209 hS210 e211 f212
                have c213 : I209 a23 11 = v33 := (f212 _ _ (fun q => absurd q.2 (by decide))).trans c166
                have c214 : I209 a97 0 = v60 := (f212 _ _ (fun q => absurd q.2 (by decide))).trans c167
                have c215 : I209 a0 15 = v190 := (f212 _ _ (fun q => absurd q.2 (by decide))).trans c191
                have c216 : I209 a0 7 = v192 := (f212 _ _ (fun q => absurd q.2 (by decide))).trans c193
                have c217 : I209 a0 2 = v195 := (f212 _ _ (fun q => absurd q.2 (by decide))).trans c196
                have c218 : I209 a0 4 = v198 := (f212 _ _ (fun q => absurd q.2 (by decide))).trans c199
                have c219 : I209 a0 3 = v201 := (f212 _ _ (fun q => absurd q.2 (by decide))).trans c202
                have c220 : I209 a0 6 = v206 := (f212 _ _ (fun q => absurd q.2 (by decide))).trans c207
                refine tr_aload_n dX7_readCall_91 rfl ?_
                refine tr_ldcwS dX7_readCall_92 ld7_297 ?_
                refine q_callVi hE (M' := mX7_takeWord) (as := [_]) dX7_readCall_95 lk7_126 inX7_takeWord seX7_takeWord myX7_takeWord (by decide) ⟨by decide, by decide⟩ rfl (kR7 hS210.1 ta0) (Nat.le_of_ble_eq_true rfl) rfl rfl (by decide) (by decide) (fk_X7_takeWord hS210.1 (gB) ((tkN gB (tkN gB (tkN gB gs)))) ta0 (by decide) (TxA.kp hT hS210 ta0 rfl rfl rfl (by decide +kernel) (by decide +kernel)) (by (try rw [c217]); first | done | omega) (by (try rw [c218]); first | done | omega) (by (try rw [c219]); first | done | omega) (by (try rw [c205]); first | done | assumption) (by (try rw [c220]); first | done | assumption) (by (try rw [((hS210.cell ta0 (by decide +kernel)).trans c20)]); first | done | omega)) ?_
                rintro v226 cn' K' N' I221 R222 L223 ⟨rfl, rfl, rfl, rfl, g224, gl225, h227, dj228, -⟩
                (try rw [pk_12] at dj228)
                have hS229 := hS210.tr g224 (by decide +kernel) (by decide +kernel)
                have c230 : I221 a23 11 = v33 := (g224.cell ta23 (by decide +kernel)).trans c213
                have c231 : I221 a97 0 = v60 := (g224.cell ta97 (by decide +kernel)).trans c214
                have c232 : I221 a0 7 = v192 := (g224.cell ta0 (by decide +kernel)).trans c216
                have c233 : I221 a97 1 = v192 := (g224.cell ta97 (by decide +kernel)).trans e211
                have hL234 := hL168.tr gl225 (by decide +kernel)
                have hN235 : NmC L223 R0 a0 gQ := NmC.kp hN169 gl225 hS229.1 ta0 (by decide +kernel) (by decide +kernel)
                rcases dj228 with ⟨p236, p237, p238, p239, p240, p241, p242, p243, p244, -⟩ | ⟨p245, p246, p247, p248, -⟩
                · skip
                  obtain ⟨v249, c250⟩ : ∃ v, I221 a0 15 = v := ⟨_, rfl⟩
                  rw [c250] at p237
                  rw [c215] at p237
                  obtain ⟨v251, c252⟩ : ∃ v, I221 a0 2 = v := ⟨_, rfl⟩
                  have b253 := iv7_2 hS229.1 ta0 c252
                  rw [c252] at p240
                  obtain ⟨v254, c255⟩ : ∃ v, I221 a0 4 = v := ⟨_, rfl⟩
                  have b256 := iv7_4 hS229.1 ta0 c255
                  rw [c255] at p241
                  obtain ⟨v257, c258⟩ : ∃ v, I221 a0 3 = v := ⟨_, rfl⟩
                  have b259 := iv7_3 hS229.1 ta0 c258
                  rw [c258] at p242
                  obtain ⟨y260, c261⟩ : ∃ v, L223 a0 5 = v := ⟨_, rfl⟩
                  rw [c261] at p243
                  obtain ⟨v262, c263⟩ : ∃ v, I221 a0 6 = v := ⟨_, rfl⟩
                  rw [c263] at p244
                  replace hF := hF.neg (by omega)
                  replace hP := hP.neg (by omega)
                  refine q_if_eq 111 dX7_readCall_98 (by decide) (fun h264 => ?_) (fun h264 => ?_)
                  · skip
                    exfalso; omega
                  · skip
                    refine tr_aload_n dX7_readCall_101 rfl ?_
                    refine q_iconst dX7_readCall_102 (by decide) ?_
                    intro v265 h266
                    refine q_bipush dX7_readCall_103 (by decide +kernel) ?_
                    intro v267 h268
                    refine q_callVi hE (M' := mX7_takeWhole) (as := [_, _]) dX7_readCall_105 lk7_115 inX7_takeWhole seX7_takeWhole myX7_takeWhole (by decide) ⟨by decide, by decide⟩ rfl (kR7 hS229.1 ta0) (Nat.le_of_ble_eq_true rfl) rfl rfl (by decide) (by decide) (fk_X7_takeWhole hS229.1 (gB) ((tkN gB (tkN gB (tkN gB (tkN gB gs))))) ta0 (by omega) (by omega) (TxA.kp hT hS229 ta0 rfl rfl rfl (by decide +kernel) (by decide +kernel)) (by (try rw [c252]); first | done | omega) (by (try rw [c255]); first | done | omega) (by (try rw [c258]); first | done | omega) (by (try rw [c261]); first | done | assumption) (by (try rw [c263]); first | done | assumption) (by (try rw [((hS229.cell ta0 (by decide +kernel)).trans c20)]); first | done | omega)) ?_
                    rintro v274 cn' K' N' I269 R270 L271 ⟨rfl, rfl, rfl, rfl, g272, gl273, h275, dj276, -⟩
                    have hS277 := hS229.tr g272 (by decide +kernel) (by decide +kernel)
                    have c278 : I269 a23 11 = v33 := (g272.cell ta23 (by decide +kernel)).trans c230
                    have c279 : I269 a97 0 = v60 := (g272.cell ta97 (by decide +kernel)).trans c231
                    have c280 : I269 a97 1 = v192 := (g272.cell ta97 (by decide +kernel)).trans c233
                    have hL281 := hL234.tr gl273 (by decide +kernel)
                    have hN282 : NmC L271 R0 a0 gQ := NmC.kp hN235 gl273 hS277.1 ta0 (by decide +kernel) (by decide +kernel)
                    rcases dj276 with ⟨p283, p284, p285, p286, p287, p288, p289, p290, p291, p292, p293, -⟩ | ⟨p294, p295, p296, p297, -⟩ | ⟨p298, p299, p300, p301, p302, -⟩
                    · skip
                      obtain ⟨v303, c304⟩ : ∃ v, I269 a0 15 = v := ⟨_, rfl⟩
                      rw [c304] at p284
                      rw [c250] at p284
                      obtain ⟨v305, c306⟩ : ∃ v, I269 a0 7 = v := ⟨_, rfl⟩
                      have b307 := iv7_7 hS277.1 ta0 c306
                      rw [c306] at p288
                      obtain ⟨v308, c309⟩ : ∃ v, I269 a0 2 = v := ⟨_, rfl⟩
                      have b310 := iv7_2 hS277.1 ta0 c309
                      rw [c309] at p289
                      obtain ⟨v311, c312⟩ : ∃ v, I269 a0 4 = v := ⟨_, rfl⟩
                      have b313 := iv7_4 hS277.1 ta0 c312
                      rw [c312] at p290
                      obtain ⟨v314, c315⟩ : ∃ v, I269 a0 3 = v := ⟨_, rfl⟩
                      have b316 := iv7_3 hS277.1 ta0 c315
                      rw [c315] at p291
                      obtain ⟨y317, c318⟩ : ∃ v, L271 a0 5 = v := ⟨_, rfl⟩
                      rw [c318] at p292
                      obtain ⟨v319, c320⟩ : ∃ v, I269 a0 6 = v := ⟨_, rfl⟩
                      rw [c320] at p293
                      replace hF := hF.neg (by omega)
                      replace hP := hP.neg (by omega)
                      replace hF := hF.neg (by omega)
                      replace hP := hP.neg (by omega)
                      refine q_if_ne 113 dX7_readCall_108 (by decide) (fun h321 => ?_) (fun h321 => ?_)
                      · skip
                        refine tr_aload_n dX7_readCall_113 rfl ?_
                        refine tr_aload_n dX7_readCall_114 rfl ?_
                        refine q_getI dX7_readCall_115 fl7_109 (kR7 hS277.1 ta0) c306 ?_
                        refine q_putI dX7_readCall_118 fl7_299 (kR5 hS277.1 ta97) (Or.inl rfl) hS277 ta97 (iokF rfl) rfl (by decide +kernel) ?_
                        intro I322 hS323 e324 f325
                        have c326 : I322 a23 11 = v33 := (f325 _ _ (fun q => absurd q.2 (by decide))).trans c278
                        have c327 : I322 a97 0 = v60 := (f325 _ _ (fun q => absurd q.2 (by decide))).trans c279
                        have c328 : I322 a97 1 = v192 := (f325 _ _ (fun q => absurd q.2 (by decide))).trans c280
                        have c329 : I322 a0 15 = v303 := (f325 _ _ (fun q => absurd q.2 (by decide))).trans c304
                        have c330 : I322 a0 7 = v305 := (f325 _ _ (fun q => absurd q.2 (by decide))).trans c306
                        have c331 : I322 a0 2 = v308 := (f325 _ _ (fun q => by have z := ta0; rw [q.1, ta97] at z; exact absurd z (by decide))).trans c309
                        have c332 : I322 a0 4 = v311 := (f325 _ _ (fun q => absurd q.2 (by decide))).trans c312
                        have c333 : I322 a0 3 = v314 := (f325 _ _ (fun q => absurd q.2 (by decide))).trans c315
                        have c334 : I322 a0 6 = v319 := (f325 _ _ (fun q => absurd q.2 (by decide))).trans c320
                        refine tr_aload_n dX7_readCall_121 rfl ?_
                        refine tr_ldcwS dX7_readCall_122 ld7_302 ?_
                        refine q_callVi hE (M' := mX7_takeWord) (as := [_]) dX7_readCall_125 lk7_126 inX7_takeWord seX7_takeWord myX7_takeWord (by decide) ⟨by decide, by decide⟩ rfl (kR7 hS323.1 ta0) (Nat.le_of_ble_eq_true rfl) rfl rfl (by decide) (by decide) (fk_X7_takeWord hS323.1 (gB) ((tkN gB (tkN gB (tkN gB (tkN gB (tkN gB gs)))))) ta0 (by decide) (TxA.kp hT hS323 ta0 rfl rfl rfl (by decide +kernel) (by decide +kernel)) (by (try rw [c331]); first | done | omega) (by (try rw [c332]); first | done | omega) (by (try rw [c333]); first | done | omega) (by (try rw [c318]); first | done | assumption) (by (try rw [c334]); first | done | assumption) (by (try rw [((hS323.cell ta0 (by decide +kernel)).trans c20)]); first | done | omega)) ?_
                        rintro v340 cn' K' N' I335 R336 L337 ⟨rfl, rfl, rfl, rfl, g338, gl339, h341, dj342, -⟩
                        (try rw [pk_8] at dj342)
                        have hS343 := hS323.tr g338 (by decide +kernel) (by decide +kernel)
                        have c344 : I335 a23 11 = v33 := (g338.cell ta23 (by decide +kernel)).trans c326
                        have c345 : I335 a97 0 = v60 := (g338.cell ta97 (by decide +kernel)).trans c327
                        have c346 : I335 a97 1 = v192 := (g338.cell ta97 (by decide +kernel)).trans c328
                        have c347 : I335 a0 7 = v305 := (g338.cell ta0 (by decide +kernel)).trans c330
                        have c348 : I335 a97 2 = v305 := (g338.cell ta97 (by decide +kernel)).trans e324
                        have hL349 := hL281.tr gl339 (by decide +kernel)
                        have hN350 : NmC L337 R0 a0 gQ := NmC.kp hN282 gl339 hS343.1 ta0 (by decide +kernel) (by decide +kernel)
                        rcases dj342 with ⟨p351, p352, p353, p354, p355, p356, p357, p358, p359, -⟩ | ⟨p360, p361, p362, p363, -⟩
                        · skip
                          obtain ⟨v364, c365⟩ : ∃ v, I335 a0 15 = v := ⟨_, rfl⟩
                          rw [c365] at p352
                          rw [c329] at p352
                          obtain ⟨v366, c367⟩ : ∃ v, I335 a0 2 = v := ⟨_, rfl⟩
                          have b368 := iv7_2 hS343.1 ta0 c367
                          rw [c367] at p355
                          obtain ⟨v369, c370⟩ : ∃ v, I335 a0 4 = v := ⟨_, rfl⟩
                          have b371 := iv7_4 hS343.1 ta0 c370
                          rw [c370] at p356
                          obtain ⟨v372, c373⟩ : ∃ v, I335 a0 3 = v := ⟨_, rfl⟩
                          have b374 := iv7_3 hS343.1 ta0 c373
                          rw [c373] at p357
                          obtain ⟨y375, c376⟩ : ∃ v, L337 a0 5 = v := ⟨_, rfl⟩
                          rw [c376] at p358
                          obtain ⟨v377, c378⟩ : ∃ v, I335 a0 6 = v := ⟨_, rfl⟩
                          rw [c378] at p359
                          replace hF := hF.neg (by omega)
                          replace hP := hP.neg (by omega)
                          refine q_if_eq 141 dX7_readCall_128 (by decide) (fun h379 => ?_) (fun h379 => ?_)
                          · skip
                            exfalso; omega
                          · skip
                            refine tr_aload_n dX7_readCall_131 rfl ?_
                            refine q_iconst dX7_readCall_132 (by decide) ?_
                            intro v380 h381
                            refine q_bipush dX7_readCall_133 (by decide +kernel) ?_
                            intro v382 h383
                            refine q_callVi hE (M' := mX7_takeWhole) (as := [_, _]) dX7_readCall_135 lk7_115 inX7_takeWhole seX7_takeWhole myX7_takeWhole (by decide) ⟨by decide, by decide⟩ rfl (kR7 hS343.1 ta0) (Nat.le_of_ble_eq_true rfl) rfl rfl (by decide) (by decide) (fk_X7_takeWhole hS343.1 (gB) ((tkN gB (tkN gB (tkN gB (tkN gB (tkN gB (tkN gB gs))))))) ta0 (by omega) (by omega) (TxA.kp hT hS343 ta0 rfl rfl rfl (by decide +kernel) (by decide +kernel)) (by (try rw [c367]); first | done | omega) (by (try rw [c370]); first | done | omega) (by (try rw [c373]); first | done | omega) (by (try rw [c376]); first | done | assumption) (by (try rw [c378]); first | done | assumption) (by (try rw [((hS343.cell ta0 (by decide +kernel)).trans c20)]); first | done | omega)) ?_
                            rintro v389 cn' K' N' I384 R385 L386 ⟨rfl, rfl, rfl, rfl, g387, gl388, h390, dj391, -⟩
                            have hS392 := hS343.tr g387 (by decide +kernel) (by decide +kernel)
                            have c393 : I384 a23 11 = v33 := (g387.cell ta23 (by decide +kernel)).trans c344
                            have c394 : I384 a97 0 = v60 := (g387.cell ta97 (by decide +kernel)).trans c345
                            have c395 : I384 a97 1 = v192 := (g387.cell ta97 (by decide +kernel)).trans c346
                            have c396 : I384 a97 2 = v305 := (g387.cell ta97 (by decide +kernel)).trans c348
                            have hL397 := hL349.tr gl388 (by decide +kernel)
                            have hN398 : NmC L386 R0 a0 gQ := NmC.kp hN350 gl388 hS392.1 ta0 (by decide +kernel) (by decide +kernel)
                            rcases dj391 with ⟨p399, p400, p401, p402, p403, p404, p405, p406, p407, p408, p409, -⟩ | ⟨p410, p411, p412, p413, -⟩ | ⟨p414, p415, p416, p417, p418, -⟩
                            · skip
                              obtain ⟨v419, c420⟩ : ∃ v, I384 a0 15 = v := ⟨_, rfl⟩
                              rw [c420] at p400
                              rw [c365] at p400
                              obtain ⟨v421, c422⟩ : ∃ v, I384 a0 7 = v := ⟨_, rfl⟩
                              have b423 := iv7_7 hS392.1 ta0 c422
                              rw [c422] at p404
                              obtain ⟨v424, c425⟩ : ∃ v, I384 a0 2 = v := ⟨_, rfl⟩
                              have b426 := iv7_2 hS392.1 ta0 c425
                              rw [c425] at p405
                              obtain ⟨v427, c428⟩ : ∃ v, I384 a0 4 = v := ⟨_, rfl⟩
                              have b429 := iv7_4 hS392.1 ta0 c428
                              rw [c428] at p406
                              obtain ⟨v430, c431⟩ : ∃ v, I384 a0 3 = v := ⟨_, rfl⟩
                              have b432 := iv7_3 hS392.1 ta0 c431
                              rw [c431] at p407
                              obtain ⟨y433, c434⟩ : ∃ v, L386 a0 5 = v := ⟨_, rfl⟩
                              rw [c434] at p408
                              obtain ⟨v435, c436⟩ : ∃ v, I384 a0 6 = v := ⟨_, rfl⟩
                              rw [c436] at p409
                              replace hF := hF.neg (by omega)
                              replace hP := hP.neg (by omega)
                              replace hF := hF.neg (by omega)
                              replace hP := hP.neg (by omega)
                              refine q_if_ne 143 dX7_readCall_138 (by decide) (fun h437 => ?_) (fun h437 => ?_)
                              · skip
                                refine tr_aload_n dX7_readCall_143 rfl ?_
                                refine tr_aload_n dX7_readCall_144 rfl ?_
                                refine q_getI dX7_readCall_145 fl7_109 (kR7 hS392.1 ta0) c422 ?_
                                refine q_putI dX7_readCall_148 fl7_304 (kR5 hS392.1 ta97) (Or.inl rfl) hS392 ta97 (iokF rfl) rfl (by decide +kernel) ?_
                                intro I438 hS439 e440 f441
                                have c442 : I438 a23 11 = v33 := (f441 _ _ (fun q => absurd q.2 (by decide))).trans c393
                                have c443 : I438 a97 0 = v60 := (f441 _ _ (fun q => absurd q.2 (by decide))).trans c394
                                have c444 : I438 a97 1 = v192 := (f441 _ _ (fun q => absurd q.2 (by decide))).trans c395
                                have c445 : I438 a97 2 = v305 := (f441 _ _ (fun q => absurd q.2 (by decide))).trans c396
                                have c446 : I438 a0 15 = v419 := (f441 _ _ (fun q => absurd q.2 (by decide))).trans c420
                                have c447 : I438 a0 7 = v421 := (f441 _ _ (fun q => absurd q.2 (by decide))).trans c422
                                have c448 : I438 a0 2 = v424 := (f441 _ _ (fun q => absurd q.2 (by decide))).trans c425
                                have c449 : I438 a0 4 = v427 := (f441 _ _ (fun q => absurd q.2 (by decide))).trans c428
                                have c450 : I438 a0 3 = v430 := (f441 _ _ (fun q => by have z := ta0; rw [q.1, ta97] at z; exact absurd z (by decide))).trans c431
                                have c451 : I438 a0 6 = v435 := (f441 _ _ (fun q => absurd q.2 (by decide))).trans c436
                                refine tr_aload_n dX7_readCall_151 rfl ?_
                                refine tr_getR dX7_readCall_152 fl7_22 (kR7 hS439.1 ta0) d24 ?_
                                refine tr_dup dX7_readCall_155 rfl ?_
                                refine q_getI dX7_readCall_156 fl7_159 (kR2 hS439.1 ta23) c442 ?_
                                refine q_iconst dX7_readCall_159 (by decide) ?_
                                intro v452 h453
                                refine q_iaddE dX7_readCall_160 (by intros; omega) ?_
                                intro v454 h455
                                refine q_putI dX7_readCall_161 fl7_159 (kR2 hS439.1 ta23) (Or.inl rfl) hS439 ta23 (by show (0 : Int) ≤ v454.toInt ∧ v454.toInt ≤ (6 : Int); omega) rfl (by decide +kernel) ?_
                                intro I456 hS457 e458 f459
                                have c460 : I456 a97 0 = v60 := (f459 _ _ (fun q => absurd q.2 (by decide))).trans c443
                                have c461 : I456 a97 1 = v192 := (f459 _ _ (fun q => absurd q.2 (by decide))).trans c444
                                have c462 : I456 a97 2 = v305 := (f459 _ _ (fun q => absurd q.2 (by decide))).trans c445
                                have c463 : I456 a0 15 = v419 := (f459 _ _ (fun q => absurd q.2 (by decide))).trans c446
                                have c464 : I456 a0 7 = v421 := (f459 _ _ (fun q => absurd q.2 (by decide))).trans c447
                                have c465 : I456 a0 2 = v424 := (f459 _ _ (fun q => absurd q.2 (by decide))).trans c448
                                have c466 : I456 a0 4 = v427 := (f459 _ _ (fun q => absurd q.2 (by decide))).trans c449
                                have c467 : I456 a0 3 = v430 := (f459 _ _ (fun q => absurd q.2 (by decide))).trans c450
                                have c468 : I456 a0 6 = v435 := (f459 _ _ (fun q => absurd q.2 (by decide))).trans c451
                                have c469 : I456 a97 3 = v421 := (f459 _ _ (fun q => absurd q.2 (by decide))).trans e440
                                refine q_iconst dX7_readCall_164 (by decide) ?_
                                intro v470 h471
                                have eF := hF.eq
                                have eP := hP.eq
                                obtain ⟨v472, c473⟩ : ∃ v, I456 a0 16 = v := ⟨_, rfl⟩
                                exact tr_zret hZ dX7_readCall_165 rfl (ti_b01 (by omega) (by omega)) (by decide) (by decide) ⟨v470, rfl, rfl, rfl, rfl, rfl, hS457, hL397, (by omega), (Or.inl ⟨(by first | done | omega), (by (try rw [c463]); (try rw [c39]); first | done | omega), (by first | done | omega), (fun q0 z0 => by obtain rfl := Option.some.inj ((d24).symm.trans z0); (try rw [e458]); first | done | omega), (by (try rw [c465]); first | done | omega), (by (try rw [c466]); first | done | omega), (by (try rw [c467]); first | done | omega), (by (try rw [c434]); first | done | assumption), (by (try rw [c468]); first | done | assumption), trivial⟩), trivial⟩
                              · skip
                                exfalso; omega
                            · skip
                              obtain ⟨v474, c475⟩ : ∃ v, I384 a0 15 = v := ⟨_, rfl⟩
                              rw [c475] at p412
                              obtain ⟨v476, c477⟩ : ∃ v, I384 a0 16 = v := ⟨_, rfl⟩
                              rw [c477] at p413
                              replace hF := hF.pos (by omega)
                              replace hP := hP.pos (by omega)
                              refine q_if_ne 143 dX7_readCall_138 (by decide) (fun h478 => ?_) (fun h478 => ?_)
                              · skip
                                exfalso; omega
                              · skip
                                refine q_iconst dX7_readCall_141 (by decide) ?_
                                intro v479 h480
                                have eF := hF.eq
                                have eP := hP.eq
                                obtain ⟨v481, c482⟩ : ∃ v, I384 a0 2 = v := ⟨_, rfl⟩
                                have b483 := iv7_2 hS392.1 ta0 c482
                                obtain ⟨v484, c485⟩ : ∃ v, I384 a0 4 = v := ⟨_, rfl⟩
                                have b486 := iv7_4 hS392.1 ta0 c485
                                obtain ⟨v487, c488⟩ : ∃ v, I384 a0 3 = v := ⟨_, rfl⟩
                                have b489 := iv7_3 hS392.1 ta0 c488
                                obtain ⟨y490, c491⟩ : ∃ v, L386 a0 5 = v := ⟨_, rfl⟩
                                obtain ⟨v492, c493⟩ : ∃ v, I384 a0 6 = v := ⟨_, rfl⟩
                                exact tr_zret hZ dX7_readCall_142 rfl (ti_b01 (by omega) (by omega)) (by decide) (by decide) ⟨v479, rfl, rfl, rfl, rfl, rfl, hS392, hL397, (by omega), (Or.inr (⟨(by first | done | omega), (by first | done | omega), (by (try rw [c475]); first | done | omega), (by (try rw [c477]); first | done | omega), trivial⟩)), trivial⟩
                            · skip
                              obtain ⟨v494, c495⟩ : ∃ v, I384 a0 15 = v := ⟨_, rfl⟩
                              rw [c495] at p417
                              obtain ⟨v496, c497⟩ : ∃ v, I384 a0 16 = v := ⟨_, rfl⟩
                              rw [c497] at p418
                              replace hF := hF.neg (by omega)
                              replace hP := hP.neg (by omega)
                              replace hF := hF.pos (by omega)
                              replace hP := hP.pos (by omega)
                              refine q_if_ne 143 dX7_readCall_138 (by decide) (fun h498 => ?_) (fun h498 => ?_)
                              · skip
                                exfalso; omega
                              · skip
                                refine q_iconst dX7_readCall_141 (by decide) ?_
                                intro v499 h500
                                have eF := hF.eq
                                have eP := hP.eq
                                obtain ⟨v501, c502⟩ : ∃ v, I384 a0 2 = v := ⟨_, rfl⟩
                                have b503 := iv7_2 hS392.1 ta0 c502
                                obtain ⟨v504, c505⟩ : ∃ v, I384 a0 4 = v := ⟨_, rfl⟩
                                have b506 := iv7_4 hS392.1 ta0 c505
                                obtain ⟨v507, c508⟩ : ∃ v, I384 a0 3 = v := ⟨_, rfl⟩
                                have b509 := iv7_3 hS392.1 ta0 c508
                                obtain ⟨y510, c511⟩ : ∃ v, L386 a0 5 = v := ⟨_, rfl⟩
                                obtain ⟨v512, c513⟩ : ∃ v, I384 a0 6 = v := ⟨_, rfl⟩
                                exact tr_zret hZ dX7_readCall_142 rfl (ti_b01 (by omega) (by omega)) (by decide) (by decide) ⟨v499, rfl, rfl, rfl, rfl, rfl, hS392, hL397, (by omega), (Or.inr (⟨(by first | done | omega), (by first | done | omega), (by (try rw [c495]); first | done | omega), (by (try rw [c497]); first | done | omega), trivial⟩)), trivial⟩
                        · skip
                          obtain ⟨v514, c515⟩ : ∃ v, I335 a0 15 = v := ⟨_, rfl⟩
                          rw [c515] at p362
                          obtain ⟨v516, c517⟩ : ∃ v, I335 a0 16 = v := ⟨_, rfl⟩
                          rw [c517] at p363
                          replace hF := hF.pos (by omega)
                          replace hP := hP.pos (by omega)
                          refine q_if_eq 141 dX7_readCall_128 (by decide) (fun h518 => ?_) (fun h518 => ?_)
                          · skip
                            refine q_iconst dX7_readCall_141 (by decide) ?_
                            intro v519 h520
                            have eF := hF.eq
                            have eP := hP.eq
                            obtain ⟨v521, c522⟩ : ∃ v, I335 a0 2 = v := ⟨_, rfl⟩
                            have b523 := iv7_2 hS343.1 ta0 c522
                            obtain ⟨v524, c525⟩ : ∃ v, I335 a0 4 = v := ⟨_, rfl⟩
                            have b526 := iv7_4 hS343.1 ta0 c525
                            obtain ⟨v527, c528⟩ : ∃ v, I335 a0 3 = v := ⟨_, rfl⟩
                            have b529 := iv7_3 hS343.1 ta0 c528
                            obtain ⟨y530, c531⟩ : ∃ v, L337 a0 5 = v := ⟨_, rfl⟩
                            obtain ⟨v532, c533⟩ : ∃ v, I335 a0 6 = v := ⟨_, rfl⟩
                            exact tr_zret hZ dX7_readCall_142 rfl (ti_b01 (by omega) (by omega)) (by decide) (by decide) ⟨v519, rfl, rfl, rfl, rfl, rfl, hS343, hL349, (by omega), (Or.inr (⟨(by first | done | omega), (by first | done | omega), (by (try rw [c515]); first | done | omega), (by (try rw [c517]); first | done | omega), trivial⟩)), trivial⟩
                          · skip
                            exfalso; omega
                      · skip
                        exfalso; omega
                    · skip
                      obtain ⟨v534, c535⟩ : ∃ v, I269 a0 15 = v := ⟨_, rfl⟩
                      rw [c535] at p296
                      obtain ⟨v536, c537⟩ : ∃ v, I269 a0 16 = v := ⟨_, rfl⟩
                      rw [c537] at p297
                      replace hF := hF.pos (by omega)
                      replace hP := hP.pos (by omega)
                      refine q_if_ne 113 dX7_readCall_108 (by decide) (fun h538 => ?_) (fun h538 => ?_)
                      · skip
                        exfalso; omega
                      · skip
                        refine q_iconst dX7_readCall_111 (by decide) ?_
                        intro v539 h540
                        have eF := hF.eq
                        have eP := hP.eq
                        obtain ⟨v541, c542⟩ : ∃ v, I269 a0 2 = v := ⟨_, rfl⟩
                        have b543 := iv7_2 hS277.1 ta0 c542
                        obtain ⟨v544, c545⟩ : ∃ v, I269 a0 4 = v := ⟨_, rfl⟩
                        have b546 := iv7_4 hS277.1 ta0 c545
                        obtain ⟨v547, c548⟩ : ∃ v, I269 a0 3 = v := ⟨_, rfl⟩
                        have b549 := iv7_3 hS277.1 ta0 c548
                        obtain ⟨y550, c551⟩ : ∃ v, L271 a0 5 = v := ⟨_, rfl⟩
                        obtain ⟨v552, c553⟩ : ∃ v, I269 a0 6 = v := ⟨_, rfl⟩
                        exact tr_zret hZ dX7_readCall_112 rfl (ti_b01 (by omega) (by omega)) (by decide) (by decide) ⟨v539, rfl, rfl, rfl, rfl, rfl, hS277, hL281, (by omega), (Or.inr (⟨(by first | done | omega), (by first | done | omega), (by (try rw [c535]); first | done | omega), (by (try rw [c537]); first | done | omega), trivial⟩)), trivial⟩
                    · skip
                      obtain ⟨v554, c555⟩ : ∃ v, I269 a0 15 = v := ⟨_, rfl⟩
                      rw [c555] at p301
                      obtain ⟨v556, c557⟩ : ∃ v, I269 a0 16 = v := ⟨_, rfl⟩
                      rw [c557] at p302
                      replace hF := hF.neg (by omega)
                      replace hP := hP.neg (by omega)
                      replace hF := hF.pos (by omega)
                      replace hP := hP.pos (by omega)
                      refine q_if_ne 113 dX7_readCall_108 (by decide) (fun h558 => ?_) (fun h558 => ?_)
                      · skip
                        exfalso; omega
                      · skip
                        refine q_iconst dX7_readCall_111 (by decide) ?_
                        intro v559 h560
                        have eF := hF.eq
                        have eP := hP.eq
                        obtain ⟨v561, c562⟩ : ∃ v, I269 a0 2 = v := ⟨_, rfl⟩
                        have b563 := iv7_2 hS277.1 ta0 c562
                        obtain ⟨v564, c565⟩ : ∃ v, I269 a0 4 = v := ⟨_, rfl⟩
                        have b566 := iv7_4 hS277.1 ta0 c565
                        obtain ⟨v567, c568⟩ : ∃ v, I269 a0 3 = v := ⟨_, rfl⟩
                        have b569 := iv7_3 hS277.1 ta0 c568
                        obtain ⟨y570, c571⟩ : ∃ v, L271 a0 5 = v := ⟨_, rfl⟩
                        obtain ⟨v572, c573⟩ : ∃ v, I269 a0 6 = v := ⟨_, rfl⟩
                        exact tr_zret hZ dX7_readCall_112 rfl (ti_b01 (by omega) (by omega)) (by decide) (by decide) ⟨v559, rfl, rfl, rfl, rfl, rfl, hS277, hL281, (by omega), (Or.inr (⟨(by first | done | omega), (by first | done | omega), (by (try rw [c555]); first | done | omega), (by (try rw [c557]); first | done | omega), trivial⟩)), trivial⟩
                · skip
                  obtain ⟨v574, c575⟩ : ∃ v, I221 a0 15 = v := ⟨_, rfl⟩
                  rw [c575] at p247
                  obtain ⟨v576, c577⟩ : ∃ v, I221 a0 16 = v := ⟨_, rfl⟩
                  rw [c577] at p248
                  replace hF := hF.pos (by omega)
                  replace hP := hP.pos (by omega)
                  refine q_if_eq 111 dX7_readCall_98 (by decide) (fun h578 => ?_) (fun h578 => ?_)
                  · skip
                    refine q_iconst dX7_readCall_111 (by decide) ?_
                    intro v579 h580
                    have eF := hF.eq
                    have eP := hP.eq
                    obtain ⟨v581, c582⟩ : ∃ v, I221 a0 2 = v := ⟨_, rfl⟩
                    have b583 := iv7_2 hS229.1 ta0 c582
                    obtain ⟨v584, c585⟩ : ∃ v, I221 a0 4 = v := ⟨_, rfl⟩
                    have b586 := iv7_4 hS229.1 ta0 c585
                    obtain ⟨v587, c588⟩ : ∃ v, I221 a0 3 = v := ⟨_, rfl⟩
                    have b589 := iv7_3 hS229.1 ta0 c588
                    obtain ⟨y590, c591⟩ : ∃ v, L223 a0 5 = v := ⟨_, rfl⟩
                    obtain ⟨v592, c593⟩ : ∃ v, I221 a0 6 = v := ⟨_, rfl⟩
                    exact tr_zret hZ dX7_readCall_112 rfl (ti_b01 (by omega) (by omega)) (by decide) (by decide) ⟨v579, rfl, rfl, rfl, rfl, rfl, hS229, hL234, (by omega), (Or.inr (⟨(by first | done | omega), (by first | done | omega), (by (try rw [c575]); first | done | omega), (by (try rw [c577]); first | done | omega), trivial⟩)), trivial⟩
                  · skip
                    exfalso; omega
              · skip
                exfalso; omega
            · skip
              obtain ⟨v594, c595⟩ : ∃ v, I157 a0 15 = v := ⟨_, rfl⟩
              rw [c595] at p183
              obtain ⟨v596, c597⟩ : ∃ v, I157 a0 16 = v := ⟨_, rfl⟩
              rw [c597] at p184
              replace hF := hF.pos (by omega)
              replace hP := hP.pos (by omega)
              refine q_if_ne 83 dX7_readCall_78 (by decide) (fun h598 => ?_) (fun h598 => ?_)
              · skip
                exfalso; omega
              · skip
                refine q_iconst dX7_readCall_81 (by decide) ?_
                intro v599 h600
                have eF := hF.eq
                have eP := hP.eq
                obtain ⟨v601, c602⟩ : ∃ v, I157 a0 2 = v := ⟨_, rfl⟩
                have b603 := iv7_2 hS165.1 ta0 c602
                obtain ⟨v604, c605⟩ : ∃ v, I157 a0 4 = v := ⟨_, rfl⟩
                have b606 := iv7_4 hS165.1 ta0 c605
                obtain ⟨v607, c608⟩ : ∃ v, I157 a0 3 = v := ⟨_, rfl⟩
                have b609 := iv7_3 hS165.1 ta0 c608
                obtain ⟨y610, c611⟩ : ∃ v, L159 a0 5 = v := ⟨_, rfl⟩
                obtain ⟨v612, c613⟩ : ∃ v, I157 a0 6 = v := ⟨_, rfl⟩
                exact tr_zret hZ dX7_readCall_82 rfl (ti_b01 (by omega) (by omega)) (by decide) (by decide) ⟨v599, rfl, rfl, rfl, rfl, rfl, hS165, hL168, (by omega), (Or.inr (⟨(by first | done | omega), (by first | done | omega), (by (try rw [c595]); first | done | omega), (by (try rw [c597]); first | done | omega), trivial⟩)), trivial⟩
            · skip
              obtain ⟨v614, c615⟩ : ∃ v, I157 a0 15 = v := ⟨_, rfl⟩
              rw [c615] at p188
              obtain ⟨v616, c617⟩ : ∃ v, I157 a0 16 = v := ⟨_, rfl⟩
              rw [c617] at p189
              replace hF := hF.neg (by omega)
              replace hP := hP.neg (by omega)
              replace hF := hF.pos (by omega)
              replace hP := hP.pos (by omega)
              refine q_if_ne 83 dX7_readCall_78 (by decide) (fun h618 => ?_) (fun h618 => ?_)
              · skip
                exfalso; omega
              · skip
                refine q_iconst dX7_readCall_81 (by decide) ?_
                intro v619 h620
                have eF := hF.eq
                have eP := hP.eq
                obtain ⟨v621, c622⟩ : ∃ v, I157 a0 2 = v := ⟨_, rfl⟩
                have b623 := iv7_2 hS165.1 ta0 c622
                obtain ⟨v624, c625⟩ : ∃ v, I157 a0 4 = v := ⟨_, rfl⟩
                have b626 := iv7_4 hS165.1 ta0 c625
                obtain ⟨v627, c628⟩ : ∃ v, I157 a0 3 = v := ⟨_, rfl⟩
                have b629 := iv7_3 hS165.1 ta0 c628
                obtain ⟨y630, c631⟩ : ∃ v, L159 a0 5 = v := ⟨_, rfl⟩
                obtain ⟨v632, c633⟩ : ∃ v, I157 a0 6 = v := ⟨_, rfl⟩
                exact tr_zret hZ dX7_readCall_82 rfl (ti_b01 (by omega) (by omega)) (by decide) (by decide) ⟨v619, rfl, rfl, rfl, rfl, rfl, hS165, hL168, (by omega), (Or.inr (⟨(by first | done | omega), (by first | done | omega), (by (try rw [c615]); first | done | omega), (by (try rw [c617]); first | done | omega), trivial⟩)), trivial⟩
        · skip
          obtain ⟨v634, c635⟩ : ∃ v, I109 a0 15 = v := ⟨_, rfl⟩
          rw [c635] at p133
          obtain ⟨v636, c637⟩ : ∃ v, I109 a0 16 = v := ⟨_, rfl⟩
          rw [c637] at p134
          replace hF := hF.pos (by omega)
          replace hP := hP.pos (by omega)
          refine q_if_eq 81 dX7_readCall_61 (by decide) (fun h638 => ?_) (fun h638 => ?_)
          · skip
            refine q_iconst dX7_readCall_81 (by decide) ?_
            intro v639 h640
            have eF := hF.eq
            have eP := hP.eq
            obtain ⟨v641, c642⟩ : ∃ v, I109 a0 2 = v := ⟨_, rfl⟩
            have b643 := iv7_2 hS117.1 ta0 c642
            obtain ⟨v644, c645⟩ : ∃ v, I109 a0 4 = v := ⟨_, rfl⟩
            have b646 := iv7_4 hS117.1 ta0 c645
            obtain ⟨v647, c648⟩ : ∃ v, I109 a0 3 = v := ⟨_, rfl⟩
            have b649 := iv7_3 hS117.1 ta0 c648
            obtain ⟨y650, c651⟩ : ∃ v, L111 a0 5 = v := ⟨_, rfl⟩
            obtain ⟨v652, c653⟩ : ∃ v, I109 a0 6 = v := ⟨_, rfl⟩
            exact tr_zret hZ dX7_readCall_82 rfl (ti_b01 (by omega) (by omega)) (by decide) (by decide) ⟨v639, rfl, rfl, rfl, rfl, rfl, hS117, hL120, (by omega), (Or.inr (⟨(by first | done | omega), (by first | done | omega), (by (try rw [c635]); first | done | omega), (by (try rw [c637]); first | done | omega), trivial⟩)), trivial⟩
          · skip
            exfalso; omega
      · skip
        replace hF := hF.pos (by omega)
        replace hP := hP.pos (by omega)
        refine tr_aload_n dX7_readCall_23 rfl ?_
        refine q_iconst dX7_readCall_24 (by decide) ?_
        intro v654 h655
        refine q_callVi hE (M' := mX7_fail) (as := [_]) dX7_readCall_25 lk7_64 inX7_fail seX7_fail myX7_fail (by decide) ⟨by decide, by decide⟩ rfl (kR7 hS0.1 ta0) (Nat.le_of_ble_eq_true rfl) rfl rfl (by decide) (by decide) (fk_X7_fail hS0.1  ta0 (by omega)) ?_
        rintro v661 cn' K' N' I656 R657 L658 ⟨rfl, rfl, rfl, rfl, rfl, g659, h662, p663, p664, p665, -⟩
        have hS666 := hS0.tr g659 (by decide +kernel) (by decide +kernel)
        have c667 : I656 a0 2 = v1 := (g659.cell ta0 (by decide +kernel)).trans c2
        have c668 : I656 a0 4 = v5 := (g659.cell ta0 (by decide +kernel)).trans c6
        have c669 : I656 a0 3 = v9 := (g659.cell ta0 (by decide +kernel)).trans c10
        have c670 : I656 a0 6 = v16 := (g659.cell ta0 (by decide +kernel)).trans c17
        have c671 : I656 a23 11 = v33 := (g659.cell ta23 (by decide +kernel)).trans c34
        obtain ⟨v672, c673⟩ : ∃ v, I656 a0 15 = v := ⟨_, rfl⟩
        rw [c673] at p664
        obtain ⟨v674, c675⟩ : ∃ v, I656 a0 16 = v := ⟨_, rfl⟩
        rw [c675] at p665
        rw [c6] at p665
        have eF := hF.eq
        have eP := hP.eq
        exact tr_zret hZ dX7_readCall_28 rfl (ti_b01 (by omega) (by omega)) (by decide) (by decide) ⟨v661, rfl, rfl, rfl, rfl, rfl, hS666, hL0, (by omega), (Or.inr (⟨(by first | done | omega), (by first | done | omega), (by (try rw [c673]); first | done | omega), (by (try rw [c675]); first | done | omega), trivial⟩)), trivial⟩
    · skip
      exfalso; omega
  · skip
    replace hF := hF.pos (by omega)
    replace hP := hP.pos (by omega)
    refine q_if_ne 13 dX7_readCall_4 (by decide) (fun h676 => ?_) (fun h676 => ?_)
    · skip
      exfalso; omega
    · skip
      refine tr_aload_n dX7_readCall_7 rfl ?_
      refine q_iconst dX7_readCall_8 (by decide) ?_
      intro v677 h678
      refine q_callVi hE (M' := mX7_fail) (as := [_]) dX7_readCall_9 lk7_64 inX7_fail seX7_fail myX7_fail (by decide) ⟨by decide, by decide⟩ rfl (kR7 hS0.1 ta0) (Nat.le_of_ble_eq_true rfl) rfl rfl (by decide) (by decide) (fk_X7_fail hS0.1  ta0 (by omega)) ?_
      rintro v684 cn' K' N' I679 R680 L681 ⟨rfl, rfl, rfl, rfl, rfl, g682, h685, p686, p687, p688, -⟩
      have hS689 := hS0.tr g682 (by decide +kernel) (by decide +kernel)
      have c690 : I679 a0 2 = v1 := (g682.cell ta0 (by decide +kernel)).trans c2
      have c691 : I679 a0 4 = v5 := (g682.cell ta0 (by decide +kernel)).trans c6
      have c692 : I679 a0 3 = v9 := (g682.cell ta0 (by decide +kernel)).trans c10
      have c693 : I679 a0 6 = v16 := (g682.cell ta0 (by decide +kernel)).trans c17
      have c694 : I679 a23 11 = v33 := (g682.cell ta23 (by decide +kernel)).trans c34
      obtain ⟨v695, c696⟩ : ∃ v, I679 a0 15 = v := ⟨_, rfl⟩
      rw [c696] at p687
      obtain ⟨v697, c698⟩ : ∃ v, I679 a0 16 = v := ⟨_, rfl⟩
      rw [c698] at p688
      rw [c6] at p688
      have eF := hF.eq
      have eP := hP.eq
      exact tr_zret hZ dX7_readCall_12 rfl (ti_b01 (by omega) (by omega)) (by decide) (by decide) ⟨v684, rfl, rfl, rfl, rfl, rfl, hS689, hL0, (by omega), (Or.inr (⟨(by first | done | omega), (by first | done | omega), (by (try rw [c696]); first | done | omega), (by (try rw [c698]); first | done | omega), trivial⟩)), trivial⟩
def wik_X7_readMinutes : List Nat := [384, 450, 451, 452, 454, 463, 464, 1599]
def wrk_X7_readMinutes : List Nat := []
def wlk_X7_readMinutes : List Nat := [453]
set_option maxHeartbeats 4000000 in
theorem fk_X7_readMinutes {l : Launch} {T : Nat → Nat} {cn : Nat} {K N : Nat → Nat} {I0 : cz_I} {R0 : cz_R} {L0 : cz_L} {d : Int} (hW0 : Wf T cn K N I0 R0 d) (gB : cz_B) (gs : Int) (gQ : Nat → Int) {a0 : Nat} (ta0 : T a0 = 7) {a1 : Nat} (ta1 : T a1 = 6) (hT : ∀ t, R0 a0 0 = some t → Tx I0 t gB) (pre0 : (I0 a0 2).toInt = (tkN gB gs)) (pre1 : (I0 a0 4).toInt = (tkS gB gs)) (pre2 : (I0 a0 3).toInt = (tkK gB gs)) (pre3 : (AtW ((tkK gB gs)) ((L0 a0 5).toInt) ((tkW gB gs)))) (pre4 : (AtV ((tkK gB gs)) ((I0 a0 6).toInt) ((tkV gB gs)))) (pre5 : (I0 a0 1).toInt = (gB.2)) (pre6 : ∀ b1, R0 a0 10 = some b1 → (I0 b1 0).toInt = (gQ 0)) : ConE l mX7_readMinutes [.ref a0, .ref a1] cn K N I0 R0 L0 (ca_i (fun v cn' K' N' I' R' L' => cn = cn' ∧ K = K' ∧ N = N' ∧ R0 = R' ∧ St T cn K N d wik_X7_readMinutes wrk_X7_readMinutes I0 R0 I' R0 ∧ LgS T wlk_X7_readMinutes L0 L' ∧ (0 ≤ v.toInt ∧ v.toInt ≤ 1) ∧ (((v.toInt = 1) ∧ ((I' a0 15).toInt = (I0 a0 15).toInt) ∧ ((riF gB gQ 8 0 gs) = 0) ∧ ((I' a0 2).toInt = (tkN gB (riS gB gQ 8 0 gs))) ∧ ((I' a0 4).toInt = (tkS gB (riS gB gQ 8 0 gs))) ∧ ((I' a0 3).toInt = (tkK gB (riS gB gQ 8 0 gs))) ∧ ((AtW ((tkK gB (riS gB gQ 8 0 gs))) ((L' a0 5).toInt) ((tkW gB (riS gB gQ 8 0 gs))))) ∧ ((AtV ((tkK gB (riS gB gQ 8 0 gs))) ((I' a0 6).toInt) ((tkV gB (riS gB gQ 8 0 gs))))) ∧ True) ∨ ((v.toInt = 0) ∧ ((riF gB gQ 8 0 gs) ≠ 0) ∧ ((I' a0 15).toInt = (riF gB gQ 8 0 gs)) ∧ ((I' a0 16).toInt = (riP gB gQ 8 0 gs)) ∧ True)) ∧ True)) := by
  refine ConE.of (by decide +kernel) rfl (Nat.le_of_ble_eq_true rfl) rfl (fun X hX hZ hE => ?_)
  subst hX
  have hS0 : St T cn K N d wik_X7_readMinutes wrk_X7_readMinutes I0 R0 I0 R0 := St.rf0 hW0
  have hL0 : LgS T wlk_X7_readMinutes L0 L0 := LgS.rf0
  obtain ⟨v1, c2⟩ : ∃ v, I0 a0 2 = v := ⟨_, rfl⟩
  have b3 := iv7_2 hS0.1 ta0 c2
  have p4 := pre0
  rw [c2] at p4
  obtain ⟨v5, c6⟩ : ∃ v, I0 a0 4 = v := ⟨_, rfl⟩
  have b7 := iv7_4 hS0.1 ta0 c6
  have p8 := pre1
  rw [c6] at p8
  obtain ⟨v9, c10⟩ : ∃ v, I0 a0 3 = v := ⟨_, rfl⟩
  have b11 := iv7_3 hS0.1 ta0 c10
  have p12 := pre2
  rw [c10] at p12
  obtain ⟨y13, c14⟩ : ∃ v, L0 a0 5 = v := ⟨_, rfl⟩
  have p15 := pre3
  rw [c14] at p15
  obtain ⟨v16, c17⟩ : ∃ v, I0 a0 6 = v := ⟨_, rfl⟩
  have p18 := pre4
  rw [c17] at p18
  obtain ⟨v19, c20⟩ : ∃ v, I0 a0 1 = v := ⟨_, rfl⟩
  have b21 := iv7_1 hW0 ta0 c20
  have p22 := pre5
  rw [c20] at p22
  obtain ⟨a23, d24, ta23⟩ := rf7_10 hW0 ta0
  obtain ⟨v25, c26⟩ : ∃ v, I0 a23 0 = v := ⟨_, rfl⟩
  have b27 := iv2_0 hW0 ta23 c26
  have p28 := pre6 _ d24
  rw [c26] at p28
  obtain ⟨v29, c30⟩ : ∃ v, I0 a0 15 = v := ⟨_, rfl⟩
  refine tr_aload_n dX7_readMinutes_0 rfl ?_
  refine q_iconst dX7_readMinutes_1 (by decide) ?_
  intro v31 h32
  refine q_putI dX7_readMinutes_2 fl7_306 (kR6 hS0.1 ta1) (Or.inl rfl) hS0 ta1 (by show (0 : Int) ≤ v31.toInt ∧ v31.toInt ≤ (8 : Int); omega) rfl (by decide +kernel) ?_
  intro I33 hS34 e35 f36
  have c37 : I33 a0 2 = v1 := (f36 _ _ (fun q => absurd q.2 (by decide))).trans c2
  have c38 : I33 a0 4 = v5 := (f36 _ _ (fun q => absurd q.2 (by decide))).trans c6
  have c39 : I33 a0 3 = v9 := (f36 _ _ (fun q => absurd q.2 (by decide))).trans c10
  have c40 : I33 a0 6 = v16 := (f36 _ _ (fun q => absurd q.2 (by decide))).trans c17
  have c41 : I33 a0 15 = v29 := (f36 _ _ (fun q => absurd q.2 (by decide))).trans c30
  refine q_iconst dX7_readMinutes_5 (by decide) ?_
  intro v42 h43
  refine tr_istore_n dX7_readMinutes_6 (by decide) (by decide) ?_
  refine q_iconst dX7_readMinutes_7 (by decide) ?_
  intro v44 h45
  refine tr_istore_n dX7_readMinutes_8 (by decide) (by decide) ?_
  have lp87 : ∀ (fu : Nat) (ls : Nat → Option Value) (v46 : Int32) (v47 : Int32) (I52 : cz_I) (L53 : cz_L) (gs54 : Int) (gr55 : Nat) (v58 : Int32) (v60 : Int32) (v62 : Int32) (v64 : Int32) (v66 : Int32) (y68 : Int64) (v70 : Int32), ls 0 = some (.ref a0) → ls 1 = some (.ref a1) → ls 2 = some (.int v46) → ls 3 = some (.int v47) → St T cn K N d wik_X7_readMinutes wrk_X7_readMinutes I0 R0 I52 R0 → LgS T wlk_X7_readMinutes L0 L53 → I52 a1 0 = v58 → I52 a0 15 = v60 → I52 a0 2 = v62 → I52 a0 4 = v64 → I52 a0 3 = v66 → L53 a0 5 = y68 → I52 a0 6 = v70 → (riF gB gQ gr55 v46.toInt gs54) = (riF gB gQ 8 0 gs) → (riP gB gQ gr55 v46.toInt gs54) = (riP gB gQ 8 0 gs) → (riS gB gQ gr55 v46.toInt gs54) = (riS gB gQ 8 0 gs) → v58.toInt = v47.toInt → 0 ≤ v46.toInt → v46.toInt ≤ 240 → 0 ≤ v47.toInt → v47.toInt ≤ 8 → ((gr55 : Int)) = -v47.toInt + 8 → v60.toInt = v29.toInt → v62.toInt = (tkN gB gs54) → v64.toInt = (tkS gB gs54) → v66.toInt = (tkK gB gs54) → (AtW ((tkK gB gs54)) (y68.toInt) ((tkW gB gs54))) → (AtV ((tkK gB gs54)) (v70.toInt) ((tkV gB gs54))) → (-v47.toInt + 9).toNat < fu → Tr X mX7_readMinutes 9 ls [] cn K N I52 R0 L53 0 0 := by
    intro fu
    induction fu with
    | zero => intros; rename_i hz; exact absurd hz (Nat.not_lt_zero _)
    | succ fu ih87 =>
      intro ls v46 v47 I52 L53 gs54 gr55 v58 v60 v62 v64 v66 y68 v70 hl48 hl49 hl50 hl51 hS56 hL57 c59 c61 c63 c65 c67 c69 c71 g72 g73 g74 g75 g76 g77 g78 g79 g80 g81 g82 g83 g84 g85 g86 hm87
      have b89 := iv6_0 hS56.1 ta1 c59
      have b90 := iv7_2 hS56.1 ta0 c63
      have b91 := iv7_4 hS56.1 ta0 c65
      have b92 := iv7_3 hS56.1 ta0 c67
      rcases Nat.eq_zero_or_pos gr55 with hz93 | hz93
      · skip
        subst hz93
        refine tr_iload_n dX7_readMinutes_9 hl51 ?_
        refine q_bipush dX7_readMinutes_10 (by decide +kernel) ?_
        intro v95 h96
        refine q_icmp_gt 97 dX7_readMinutes_12 (by decide) (fun h97 => ?_) (fun h97 => ?_)
        · skip
          exfalso; omega
        · skip
          refine tr_aload_n dX7_readMinutes_15 hl48 ?_
          refine tr_iload_n dX7_readMinutes_16 hl50 ?_
          refine tr_aload_n dX7_readMinutes_17 hl48 ?_
          refine tr_getR dX7_readMinutes_18 fl7_22 (kR7 hS56.1 ta0) d24 ?_
          refine q_getI dX7_readMinutes_21 fl7_118 (kR2 hS56.1 ta23) ((hS56.cell ta23 (by decide +kernel)).trans c26) ?_
          refine q_iconst dX7_readMinutes_24 (by decide) ?_
          intro v98 h99
          refine q_isubE dX7_readMinutes_25 (by intros; omega) ?_
          intro v100 h101
          refine q_callVi hE (M' := mX7_seesWhole) (as := [_, _]) dX7_readMinutes_26 lk7_105 inX7_seesWhole seX7_seesWhole myX7_seesWhole (by decide) ⟨by decide, by decide⟩ rfl (kR7 hS56.1 ta0) (Nat.le_of_ble_eq_true rfl) rfl rfl (by decide) (by decide) (fk_X7_seesWhole hS56.1 (gB) (gs54) ta0 (by (try rw [c63]); first | done | omega) (by (try rw [c65]); first | done | omega) (by (try rw [c67]); first | done | omega) (by (try rw [c69]); first | done | assumption) (by (try rw [c71]); first | done | assumption)) ?_
          rintro v107 cn' K' N' I102 R103 L104 ⟨rfl, rfl, rfl, rfl, rfl, g105, h108, dj109, -⟩
          have hS110 := hS56.tr g105 (by decide +kernel) (by decide +kernel)
          have c111 : I102 a1 0 = v58 := (g105.cell ta1 (by decide +kernel)).trans c59
          have c112 : I102 a0 2 = v62 := (g105.cell ta0 (by decide +kernel)).trans c63
          have c113 : I102 a0 4 = v64 := (g105.cell ta0 (by decide +kernel)).trans c65
          have c114 : I102 a0 3 = v66 := (g105.cell ta0 (by decide +kernel)).trans c67
          have c115 : I102 a0 6 = v70 := (g105.cell ta0 (by decide +kernel)).trans c71
          rcases dj109 with ⟨p116, p117, p118, p119, p120, p121, -⟩ | ⟨p122, p123, p124, p125, -⟩ | ⟨p126, p127, p128, p129, p130, -⟩
          · skip
            obtain ⟨v131, c132⟩ : ∃ v, I102 a0 15 = v := ⟨_, rfl⟩
            rw [c132] at p117
            rw [c61] at p117
            rw [c71] at p121
            refine q_if_ne 34 dX7_readMinutes_29 (by decide) (fun h133 => ?_) (fun h133 => ?_)
            · skip
              refine tr_iload_n dX7_readMinutes_34 hl51 ?_
              refine q_bipush dX7_readMinutes_35 (by decide +kernel) ?_
              intro v134 h135
              refine q_icmp_ne 46 dX7_readMinutes_37 (by decide) (fun h136 => ?_) (fun h136 => ?_)
              · skip
                exfalso; omega
              · skip
                refine tr_aload_n dX7_readMinutes_40 hl48 ?_
                refine q_iconst dX7_readMinutes_41 (by decide) ?_
                intro v137 h138
                refine q_callVi hE (M' := mX7_fail) (as := [_]) dX7_readMinutes_42 lk7_64 inX7_fail seX7_fail myX7_fail (by decide) ⟨by decide, by decide⟩ rfl (kR7 hS110.1 ta0) (Nat.le_of_ble_eq_true rfl) rfl rfl (by decide) (by decide) (fk_X7_fail hS110.1  ta0 (by omega)) ?_
                rintro v144 cn' K' N' I139 R140 L141 ⟨rfl, rfl, rfl, rfl, rfl, g142, h145, p146, p147, p148, -⟩
                have hS149 := hS110.tr g142 (by decide +kernel) (by decide +kernel)
                have c150 : I139 a1 0 = v58 := (g142.cell ta1 (by decide +kernel)).trans c111
                have c151 : I139 a0 2 = v62 := (g142.cell ta0 (by decide +kernel)).trans c112
                have c152 : I139 a0 4 = v64 := (g142.cell ta0 (by decide +kernel)).trans c113
                have c153 : I139 a0 3 = v66 := (g142.cell ta0 (by decide +kernel)).trans c114
                have c154 : I139 a0 6 = v70 := (g142.cell ta0 (by decide +kernel)).trans c115
                obtain ⟨v155, c156⟩ : ∃ v, I139 a0 15 = v := ⟨_, rfl⟩
                rw [c156] at p147
                obtain ⟨v157, c158⟩ : ∃ v, I139 a0 16 = v := ⟨_, rfl⟩
                rw [c158] at p148
                rw [c113] at p148
                exact tr_zret hZ dX7_readMinutes_45 rfl (ti_b01 (by omega) (by omega)) (by decide) (by decide) ⟨v144, rfl, rfl, rfl, rfl, rfl, hS149, hL57, (by omega), (Or.inr (⟨(by first | done | omega), (by rw [← g72]; simp only [riF, ↓reduceIte]; repeat' (first | split | omega)), (by (try rw [c156]); rw [← g72]; simp only [riF, ↓reduceIte]; repeat' (first | split | omega)), (by (try rw [c158]); rw [← g73]; simp only [riP, ↓reduceIte]; repeat' (first | split | omega)), trivial⟩)), trivial⟩
            · skip
              exfalso; omega
          · skip
            obtain ⟨v159, c160⟩ : ∃ v, I102 a0 15 = v := ⟨_, rfl⟩
            rw [c160] at p124
            obtain ⟨v161, c162⟩ : ∃ v, I102 a0 16 = v := ⟨_, rfl⟩
            rw [c162] at p125
            refine q_if_ne 34 dX7_readMinutes_29 (by decide) (fun h163 => ?_) (fun h163 => ?_)
            · skip
              exfalso; omega
            · skip
              refine q_iconst dX7_readMinutes_32 (by decide) ?_
              intro v164 h165
              exact tr_zret hZ dX7_readMinutes_33 rfl (ti_b01 (by omega) (by omega)) (by decide) (by decide) ⟨v164, rfl, rfl, rfl, rfl, rfl, hS110, hL57, (by omega), (Or.inr (⟨(by first | done | omega), (by rw [← g72]; simp only [riF, ↓reduceIte]; repeat' (first | split | omega)), (by (try rw [c160]); rw [← g72]; simp only [riF, ↓reduceIte]; repeat' (first | split | omega)), (by (try rw [c162]); rw [← g73]; simp only [riP, ↓reduceIte]; repeat' (first | split | omega)), trivial⟩)), trivial⟩
          · skip
            obtain ⟨v166, c167⟩ : ∃ v, I102 a0 15 = v := ⟨_, rfl⟩
            rw [c167] at p129
            obtain ⟨v168, c169⟩ : ∃ v, I102 a0 16 = v := ⟨_, rfl⟩
            rw [c169] at p130
            refine q_if_ne 34 dX7_readMinutes_29 (by decide) (fun h170 => ?_) (fun h170 => ?_)
            · skip
              exfalso; omega
            · skip
              refine q_iconst dX7_readMinutes_32 (by decide) ?_
              intro v171 h172
              exact tr_zret hZ dX7_readMinutes_33 rfl (ti_b01 (by omega) (by omega)) (by decide) (by decide) ⟨v171, rfl, rfl, rfl, rfl, rfl, hS110, hL57, (by omega), (Or.inr (⟨(by first | done | omega), (by rw [← g72]; simp only [riF, ↓reduceIte]; repeat' (first | split | omega)), (by (try rw [c167]); rw [← g72]; simp only [riF, ↓reduceIte]; repeat' (first | split | omega)), (by (try rw [c169]); rw [← g73]; simp only [riP, ↓reduceIte]; repeat' (first | split | omega)), trivial⟩)), trivial⟩
      · skip
        obtain ⟨gk94, rfl⟩ : ∃ k, gr55 = k + 1 := ⟨gr55 - 1, by omega⟩
        refine tr_iload_n dX7_readMinutes_9 hl51 ?_
        refine q_bipush dX7_readMinutes_10 (by decide +kernel) ?_
        intro v173 h174
        refine q_icmp_gt 97 dX7_readMinutes_12 (by decide) (fun h175 => ?_) (fun h175 => ?_)
        · skip
          exfalso; omega
        · skip
          refine tr_aload_n dX7_readMinutes_15 hl48 ?_
          refine tr_iload_n dX7_readMinutes_16 hl50 ?_
          refine tr_aload_n dX7_readMinutes_17 hl48 ?_
          refine tr_getR dX7_readMinutes_18 fl7_22 (kR7 hS56.1 ta0) d24 ?_
          refine q_getI dX7_readMinutes_21 fl7_118 (kR2 hS56.1 ta23) ((hS56.cell ta23 (by decide +kernel)).trans c26) ?_
          refine q_iconst dX7_readMinutes_24 (by decide) ?_
          intro v176 h177
          refine q_isubE dX7_readMinutes_25 (by intros; omega) ?_
          intro v178 h179
          refine q_callVi hE (M' := mX7_seesWhole) (as := [_, _]) dX7_readMinutes_26 lk7_105 inX7_seesWhole seX7_seesWhole myX7_seesWhole (by decide) ⟨by decide, by decide⟩ rfl (kR7 hS56.1 ta0) (Nat.le_of_ble_eq_true rfl) rfl rfl (by decide) (by decide) (fk_X7_seesWhole hS56.1 (gB) (gs54) ta0 (by (try rw [c63]); first | done | omega) (by (try rw [c65]); first | done | omega) (by (try rw [c67]); first | done | omega) (by (try rw [c69]); first | done | assumption) (by (try rw [c71]); first | done | assumption)) ?_
          rintro v185 cn' K' N' I180 R181 L182 ⟨rfl, rfl, rfl, rfl, rfl, g183, h186, dj187, -⟩
          have hS188 := hS56.tr g183 (by decide +kernel) (by decide +kernel)
          have c189 : I180 a1 0 = v58 := (g183.cell ta1 (by decide +kernel)).trans c59
          have c190 : I180 a0 2 = v62 := (g183.cell ta0 (by decide +kernel)).trans c63
          have c191 : I180 a0 4 = v64 := (g183.cell ta0 (by decide +kernel)).trans c65
          have c192 : I180 a0 3 = v66 := (g183.cell ta0 (by decide +kernel)).trans c67
          have c193 : I180 a0 6 = v70 := (g183.cell ta0 (by decide +kernel)).trans c71
          rcases dj187 with ⟨p194, p195, p196, p197, p198, p199, -⟩ | ⟨p200, p201, p202, p203, -⟩ | ⟨p204, p205, p206, p207, p208, -⟩
          · skip
            obtain ⟨v209, c210⟩ : ∃ v, I180 a0 15 = v := ⟨_, rfl⟩
            rw [c210] at p195
            rw [c61] at p195
            rw [c71] at p199
            refine q_if_ne 34 dX7_readMinutes_29 (by decide) (fun h211 => ?_) (fun h211 => ?_)
            · skip
              refine tr_iload_n dX7_readMinutes_34 hl51 ?_
              refine q_bipush dX7_readMinutes_35 (by decide +kernel) ?_
              intro v212 h213
              refine q_icmp_ne 46 dX7_readMinutes_37 (by decide) (fun h214 => ?_) (fun h214 => ?_)
              · skip
                refine tr_aload_n dX7_readMinutes_46 hl49 ?_
                obtain ⟨a215, d216, ta215⟩ := rf6_1 hW0 ta1
                refine tr_getR dX7_readMinutes_47 fl7_311 (kR6 hS188.1 ta1) d216 ?_
                refine tr_iload_n dX7_readMinutes_50 hl51 ?_
                refine tr_aload_n dX7_readMinutes_51 hl48 ?_
                have p217 := g86 (by omega)
                refine q_getI dX7_readMinutes_52 fl7_86 (kR7 hS188.1 ta0) c193 ?_
                refine q_iast dX7_readMinutes_55 (kR24 hS188.1 ta215) (ti_in (nR24 hS188.1 ta215) (by omega) (by omega)) hS188 ta215 (by show (0 : Int) ≤ v70.toInt ∧ v70.toInt ≤ (239 : Int); omega) rfl (by rfl) ?_
                intro I218 hS219 e221 f220
                have c222 : I218 a1 0 = v58 := (f220 _ _ (fun q => by have z := ta1; rw [q.1, ta215] at z; exact absurd z (by decide))).trans c189
                have c223 : I218 a0 2 = v62 := (f220 _ _ (fun q => by have z := ta0; rw [q.1, ta215] at z; exact absurd z (by decide))).trans c190
                have c224 : I218 a0 4 = v64 := (f220 _ _ (fun q => by have z := ta0; rw [q.1, ta215] at z; exact absurd z (by decide))).trans c191
                have c225 : I218 a0 3 = v66 := (f220 _ _ (fun q => by have z := ta0; rw [q.1, ta215] at z; exact absurd z (by decide))).trans c192
                have c226 : I218 a0 6 = v70 := (f220 _ _ (fun q => by have z := ta0; rw [q.1, ta215] at z; exact absurd z (by decide))).trans c193
                have c227 : I218 a0 15 = v209 := (f220 _ _ (fun q => by have z := ta0; rw [q.1, ta215] at z; exact absurd z (by decide))).trans c210
                refine tr_aload_n dX7_readMinutes_56 hl49 ?_
                refine tr_dup dX7_readMinutes_57 rfl ?_
                refine q_getI dX7_readMinutes_58 fl7_306 (kR6 hS219.1 ta1) c222 ?_
                refine q_iconst dX7_readMinutes_61 (by decide) ?_
                intro v228 h229
                refine q_iaddE dX7_readMinutes_62 (by intros; omega) ?_
                intro v230 h231
                refine q_putI dX7_readMinutes_63 fl7_306 (kR6 hS219.1 ta1) (Or.inl rfl) hS219 ta1 (by show (0 : Int) ≤ v230.toInt ∧ v230.toInt ≤ (8 : Int); omega) rfl (by decide +kernel) ?_
                intro I232 hS233 e234 f235
                have c236 : I232 a0 2 = v62 := (f235 _ _ (fun q => absurd q.2 (by decide))).trans c223
                have c237 : I232 a0 4 = v64 := (f235 _ _ (fun q => absurd q.2 (by decide))).trans c224
                have c238 : I232 a0 3 = v66 := (f235 _ _ (fun q => absurd q.2 (by decide))).trans c225
                have c239 : I232 a0 6 = v70 := (f235 _ _ (fun q => absurd q.2 (by decide))).trans c226
                have c240 : I232 a0 15 = v209 := (f235 _ _ (fun q => absurd q.2 (by decide))).trans c227
                refine tr_aload_n dX7_readMinutes_66 hl48 ?_
                refine q_getI dX7_readMinutes_67 fl7_86 (kR7 hS233.1 ta0) c239 ?_
                refine q_iconst dX7_readMinutes_70 (by decide) ?_
                intro v241 h242
                refine q_iaddE dX7_readMinutes_71 (by intros; omega) ?_
                intro v243 h244
                refine tr_istore_n dX7_readMinutes_72 (by decide) (by decide) ?_
                refine tr_aload_n dX7_readMinutes_73 hl48 ?_
                refine q_callVv hE (M' := mX7_step) (as := []) dX7_readMinutes_74 lk7_51 inX7_step seX7_step myX7_step (by decide) ⟨by decide, by decide⟩ rfl (kR7 hS233.1 ta0) (Nat.le_of_ble_eq_true rfl) rfl rfl (by decide) (by decide) (fk_X7_step hS233.1 (gB) ((tkN gB gs54)) ta0 (TxA.kp hT hS233 ta0 rfl rfl rfl (by decide +kernel) (by decide +kernel)) (by (try rw [c236]); first | done | omega) (by (try rw [((hS233.cell ta0 (by decide +kernel)).trans c20)]); first | done | omega)) ?_
                rintro cn' K' N' I245 R246 L247 ⟨rfl, rfl, rfl, rfl, g248, gl249, p251, p252, p253, p254, p255, -⟩
                have hS256 := hS233.tr g248 (by decide +kernel) (by decide +kernel)
                have c257 : I245 a0 15 = v209 := (g248.cell ta0 (by decide +kernel)).trans c240
                have c258 : I245 a1 0 = v230 := (g248.cell ta1 (by decide +kernel)).trans e234
                have hL259 := hL57.tr gl249 (by decide +kernel)
                obtain ⟨v260, c261⟩ : ∃ v, I245 a0 2 = v := ⟨_, rfl⟩
                have b262 := iv7_2 hS256.1 ta0 c261
                rw [c261] at p251
                obtain ⟨v263, c264⟩ : ∃ v, I245 a0 4 = v := ⟨_, rfl⟩
                have b265 := iv7_4 hS256.1 ta0 c264
                rw [c264] at p252
                obtain ⟨v266, c267⟩ : ∃ v, I245 a0 3 = v := ⟨_, rfl⟩
                have b268 := iv7_3 hS256.1 ta0 c267
                rw [c267] at p253
                obtain ⟨y269, c270⟩ : ∃ v, L247 a0 5 = v := ⟨_, rfl⟩
                rw [c270] at p254
                obtain ⟨v271, c272⟩ : ∃ v, I245 a0 6 = v := ⟨_, rfl⟩
                rw [c272] at p255
                refine tr_aload_n dX7_readMinutes_77 hl48 ?_
                refine q_getI dX7_readMinutes_78 fl7_58 (kR7 hS256.1 ta0) c267 ?_
                refine q_iconst dX7_readMinutes_81 (by decide) ?_
                intro v273 h274
                refine q_icmp_eq 87 dX7_readMinutes_82 (by decide) (fun h275 => ?_) (fun h275 => ?_)
                · skip
                  refine tr_aload_n dX7_readMinutes_87 hl48 ?_
                  refine q_callVv hE (M' := mX7_step) (as := []) dX7_readMinutes_88 lk7_51 inX7_step seX7_step myX7_step (by decide) ⟨by decide, by decide⟩ rfl (kR7 hS256.1 ta0) (Nat.le_of_ble_eq_true rfl) rfl rfl (by decide) (by decide) (fk_X7_step hS256.1 (gB) ((tkN gB (tkN gB gs54))) ta0 (TxA.kp hT hS256 ta0 rfl rfl rfl (by decide +kernel) (by decide +kernel)) (by (try rw [c261]); first | done | omega) (by (try rw [((hS256.cell ta0 (by decide +kernel)).trans c20)]); first | done | omega)) ?_
                  rintro cn' K' N' I276 R277 L278 ⟨rfl, rfl, rfl, rfl, g279, gl280, p282, p283, p284, p285, p286, -⟩
                  have hS287 := hS256.tr g279 (by decide +kernel) (by decide +kernel)
                  have c288 : I276 a0 15 = v209 := (g279.cell ta0 (by decide +kernel)).trans c257
                  have c289 : I276 a1 0 = v230 := (g279.cell ta1 (by decide +kernel)).trans c258
                  have hL290 := hL259.tr gl280 (by decide +kernel)
                  obtain ⟨v291, c292⟩ : ∃ v, I276 a0 2 = v := ⟨_, rfl⟩
                  have b293 := iv7_2 hS287.1 ta0 c292
                  rw [c292] at p282
                  obtain ⟨v294, c295⟩ : ∃ v, I276 a0 4 = v := ⟨_, rfl⟩
                  have b296 := iv7_4 hS287.1 ta0 c295
                  rw [c295] at p283
                  obtain ⟨v297, c298⟩ : ∃ v, I276 a0 3 = v := ⟨_, rfl⟩
                  have b299 := iv7_3 hS287.1 ta0 c298
                  rw [c298] at p284
                  obtain ⟨y300, c301⟩ : ∃ v, L278 a0 5 = v := ⟨_, rfl⟩
                  rw [c301] at p285
                  obtain ⟨v302, c303⟩ : ∃ v, I276 a0 6 = v := ⟨_, rfl⟩
                  rw [c303] at p286
                  refine q_iincE dX7_readMinutes_91 hl51 (by decide) (by decide) (by intros; omega) ?_
                  intro v304 h305
                  refine tr_goto 9 dX7_readMinutes_94 (by decide) ?_
                  exact ih87 _ v243 v304 I276 L278 ((tkN gB (tkN gB gs54))) (gk94) v230 v209 v291 v294 v297 y300 v302 hl48 hl49 rfl rfl hS287 hL290 c289 c288 c292 c295 c298 c301 c303 (by rw [← g72]; simp only [riF, ↓reduceIte]; rw [show v243.toInt = tkV gB gs54 + 1 by omega]; repeat' (first | split | omega)) (by rw [← g73]; simp only [riP, ↓reduceIte]; rw [show v243.toInt = tkV gB gs54 + 1 by omega]; repeat' (first | split | omega)) (by rw [← g74]; simp only [riS, ↓reduceIte]; rw [show v243.toInt = tkV gB gs54 + 1 by omega]; repeat' (first | split | omega)) (by omega) (by omega) (by omega) (by omega) (by omega) (by omega) (by omega) (by omega) (by omega) (by omega) (by assumption) (by assumption) (by omega)
                · skip
                  refine q_iconst dX7_readMinutes_85 (by decide) ?_
                  intro v306 h307
                  have es308 : riS gB gQ 8 0 gs = (tkN gB gs54) := by rw [← g74]; simp only [riS, ↓reduceIte]; repeat' (first | split | omega)
                  obtain ⟨v309, c310⟩ : ∃ v, I245 a0 16 = v := ⟨_, rfl⟩
                  exact tr_zret hZ dX7_readMinutes_86 rfl (ti_b01 (by omega) (by omega)) (by decide) (by decide) ⟨v306, rfl, rfl, rfl, rfl, rfl, hS256, hL259, (by omega), (Or.inl ⟨(by (try rw [es308]); first | done | omega), (by (try rw [es308]); (try rw [c257]); (try rw [c30]); first | done | omega), (by rw [← g72]; simp only [riF, ↓reduceIte]; repeat' (first | split | omega)), (by (try rw [es308]); (try rw [c261]); first | done | omega), (by (try rw [es308]); (try rw [c264]); first | done | omega), (by (try rw [es308]); (try rw [c267]); first | done | omega), (by (try rw [es308]); (try rw [c270]); first | done | assumption), (by (try rw [es308]); (try rw [c272]); first | done | assumption), trivial⟩), trivial⟩
              · skip
                exfalso; omega
            · skip
              exfalso; omega
          · skip
            obtain ⟨v311, c312⟩ : ∃ v, I180 a0 15 = v := ⟨_, rfl⟩
            rw [c312] at p202
            obtain ⟨v313, c314⟩ : ∃ v, I180 a0 16 = v := ⟨_, rfl⟩
            rw [c314] at p203
            refine q_if_ne 34 dX7_readMinutes_29 (by decide) (fun h315 => ?_) (fun h315 => ?_)
            · skip
              exfalso; omega
            · skip
              refine q_iconst dX7_readMinutes_32 (by decide) ?_
              intro v316 h317
              exact tr_zret hZ dX7_readMinutes_33 rfl (ti_b01 (by omega) (by omega)) (by decide) (by decide) ⟨v316, rfl, rfl, rfl, rfl, rfl, hS188, hL57, (by omega), (Or.inr (⟨(by first | done | omega), (by rw [← g72]; simp only [riF, ↓reduceIte]; repeat' (first | split | omega)), (by (try rw [c312]); rw [← g72]; simp only [riF, ↓reduceIte]; repeat' (first | split | omega)), (by (try rw [c314]); rw [← g73]; simp only [riP, ↓reduceIte]; repeat' (first | split | omega)), trivial⟩)), trivial⟩
          · skip
            obtain ⟨v318, c319⟩ : ∃ v, I180 a0 15 = v := ⟨_, rfl⟩
            rw [c319] at p207
            obtain ⟨v320, c321⟩ : ∃ v, I180 a0 16 = v := ⟨_, rfl⟩
            rw [c321] at p208
            refine q_if_ne 34 dX7_readMinutes_29 (by decide) (fun h322 => ?_) (fun h322 => ?_)
            · skip
              exfalso; omega
            · skip
              refine q_iconst dX7_readMinutes_32 (by decide) ?_
              intro v323 h324
              exact tr_zret hZ dX7_readMinutes_33 rfl (ti_b01 (by omega) (by omega)) (by decide) (by decide) ⟨v323, rfl, rfl, rfl, rfl, rfl, hS188, hL57, (by omega), (Or.inr (⟨(by first | done | omega), (by rw [← g72]; simp only [riF, ↓reduceIte]; repeat' (first | split | omega)), (by (try rw [c319]); rw [← g72]; simp only [riF, ↓reduceIte]; repeat' (first | split | omega)), (by (try rw [c321]); rw [← g73]; simp only [riP, ↓reduceIte]; repeat' (first | split | omega)), trivial⟩)), trivial⟩
  exact lp87 _ _ v42 v44 I33 L0 (gs) (8) v31 v29 v1 v5 v9 y13 v16 rfl rfl rfl rfl hS34 hL0 e35 c41 c37 c38 c39 c14 c40 (by first | rfl | (congr 1; omega) | (congr 2 <;> omega)) (by first | rfl | (congr 1; omega) | (congr 2 <;> omega)) (by first | rfl | (congr 1; omega) | (congr 2 <;> omega)) (by omega) (by omega) (by omega) (by omega) (by omega) (by omega) (by omega) (by omega) (by omega) (by omega) (by assumption) (by assumption) (Nat.lt_succ_self _)
