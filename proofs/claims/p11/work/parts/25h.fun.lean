def wik_X7_readCheese : List Nat := [133, 135, 450, 451, 452, 454, 455, 463, 464, 1343]
def wrk_X7_readCheese : List Nat := []
def wlk_X7_readCheese : List Nat := [453, 1663]
set_option maxHeartbeats 4000000 in
theorem fk_X7_readCheese {l : Launch} {T : Nat → Nat} {cn : Nat} {K N : Nat → Nat} {I0 : cz_I} {R0 : cz_R} {L0 : cz_L} {d : Int} (hW0 : Wf T cn K N I0 R0 d) (gB : cz_B) (gs : Int) (gQ : Nat → Int) {a0 : Nat} (ta0 : T a0 = 7) (hT : ∀ t, R0 a0 0 = some t → Tx I0 t gB) (hN : NmC L0 R0 a0 gQ) (pre0 : (I0 a0 2).toInt = (tkN gB gs)) (pre1 : (I0 a0 4).toInt = (tkS gB gs)) (pre2 : (I0 a0 3).toInt = (tkK gB gs)) (pre3 : (AtW ((tkK gB gs)) ((L0 a0 5).toInt) ((tkW gB gs)))) (pre4 : (AtV ((tkK gB gs)) ((I0 a0 6).toInt) ((tkV gB gs)))) (pre5 : (I0 a0 1).toInt = (gB.2)) (pre6 : ∀ b1, R0 a0 10 = some b1 → (I0 b1 1).toInt = (gQ 1)) (pre7 : ∀ b1, R0 a0 10 = some b1 → (I0 b1 5).toInt = (gQ 3)) (pre8 : ∀ b1, R0 a0 10 = some b1 → (I0 b1 9).toInt = (gQ 4)) (pre9 : (gQ 3) ≤ 7) (pre10 : (gQ 4) ≤ 5) (pre11 : ∀ b1, R0 a0 10 = some b1 → (I0 b1 7).toInt = (gQ 9)) (pre12 : (UpB ((gQ 9)) ((gQ 3)))) : ConE l mX7_readCheese [.ref a0] cn K N I0 R0 L0 (ca_i (fun v cn' K' N' I' R' L' => cn = cn' ∧ K = K' ∧ N = N' ∧ R0 = R' ∧ St T cn K N d wik_X7_readCheese wrk_X7_readCheese I0 R0 I' R0 ∧ LgS T wlk_X7_readCheese L0 L' ∧ (0 ≤ v.toInt ∧ v.toInt ≤ 1) ∧ (∀ al, R0 a0 10 = some al → FrK R0 al (fun u => u = 35) T I0 I') ∧ (∀ dr, R0 a0 10 = some dr → FrO 2 dr T I0 I') ∧ (((v.toInt = 1) ∧ ((I' a0 15).toInt = (I0 a0 15).toInt) ∧ ((chF gB gQ gs) = 0) ∧ (∀ b1, R0 a0 10 = some b1 → (I' b1 5).toInt = (gQ 3) + 1) ∧ ((I' a0 2).toInt = (tkN gB (chS gB gQ gs))) ∧ ((I' a0 4).toInt = (tkS gB (chS gB gQ gs))) ∧ ((I' a0 3).toInt = (tkK gB (chS gB gQ gs))) ∧ ((AtW ((tkK gB (chS gB gQ gs))) ((L' a0 5).toInt) ((tkW gB (chS gB gQ gs))))) ∧ ((AtV ((tkK gB (chS gB gQ gs))) ((I' a0 6).toInt) ((tkV gB (chS gB gQ gs))))) ∧ (∀ b1, R0 a0 10 = some b1 → (I' b1 7).toInt = (bdQ gB gQ 5 gs 9)) ∧ (NmC L' R0 a0 (bdQ gB gQ 5 gs)) ∧ (∀ al t, R0 a0 10 = some al → R0 al 6 = some t → (I' t (gQ 3).toNat).toInt = tkV gB (tkN gB (tkN gB gs)) ∧ ∀ j, ¬ j = (gQ 3).toNat → I' t j = I0 t j) ∧ True) ∨ ((v.toInt = 0) ∧ ((chF gB gQ gs) ≠ 0) ∧ ((I' a0 15).toInt = (chF gB gQ gs)) ∧ ((I' a0 16).toInt = (chP gB gQ gs)) ∧ True)) ∧ True)) := by
  refine ConE.of (by decide +kernel) rfl (Nat.le_of_ble_eq_true rfl) rfl (fun X hX hZ hE => ?_)
  subst hX
  have hS0 : St T cn K N d wik_X7_readCheese wrk_X7_readCheese I0 R0 I0 R0 := St.rf0 hW0
  have hL0 : LgS T wlk_X7_readCheese L0 L0 := LgS.rf0
  obtain ⟨v1, c2⟩ : ∃ v, I0 a0 2 = v := ⟨_, rfl⟩
  have b3 := iv7_2 hS0.1 ta0 c2
  have p4 := pre0
  rw [c2] at p4
  obtain ⟨v5, c6⟩ : ∃ v, I0 a0 4 = v := ⟨_, rfl⟩
  have b7 := iv7_4 hS0.1 ta0 c6
  have p8 := pre1
  rw [c6] at p8
  obtain ⟨v9, c10⟩ : ∃ v, I0 a0 3 = v := ⟨_, rfl⟩
  have b11 := iv7_3 hS0.1 ta0 c10
  have p12 := pre2
  rw [c10] at p12
  obtain ⟨y13, c14⟩ : ∃ v, L0 a0 5 = v := ⟨_, rfl⟩
  have p15 := pre3
  rw [c14] at p15
  obtain ⟨v16, c17⟩ : ∃ v, I0 a0 6 = v := ⟨_, rfl⟩
  have p18 := pre4
  rw [c17] at p18
  obtain ⟨v19, c20⟩ : ∃ v, I0 a0 1 = v := ⟨_, rfl⟩
  have b21 := iv7_1 hW0 ta0 c20
  have p22 := pre5
  rw [c20] at p22
  obtain ⟨a23, d24, ta23⟩ := rf7_10 hW0 ta0
  obtain ⟨v25, c26⟩ : ∃ v, I0 a23 1 = v := ⟨_, rfl⟩
  have b27 := iv2_1 hW0 ta23 c26
  have p28 := pre6 _ d24
  rw [c26] at p28
  obtain ⟨v29, c30⟩ : ∃ v, I0 a23 5 = v := ⟨_, rfl⟩
  have b31 := iv2_5 hS0.1 ta23 c30
  have p32 := pre7 _ d24
  rw [c30] at p32
  obtain ⟨v33, c34⟩ : ∃ v, I0 a23 9 = v := ⟨_, rfl⟩
  have b35 := iv2_9 hW0 ta23 c34
  have p36 := pre8 _ d24
  rw [c34] at p36
  have p37 := pre9
  have p38 := pre10
  obtain ⟨v39, c40⟩ : ∃ v, I0 a23 7 = v := ⟨_, rfl⟩
  have p41 := pre11 _ d24
  rw [c40] at p41
  have p42 := pre12
  obtain ⟨v43, c44⟩ : ∃ v, I0 a0 15 = v := ⟨_, rfl⟩
  have hO0 : FrO 2 a23 T I0 I0 := FrO.rf
  obtain ⟨a45, d46, ta45⟩ := rf2_6 hW0 ta23
  have hF := chF_ch gB gQ gs
  have hP := chP_ch gB gQ gs
  refine tr_aload_n dX7_readCheese_0 rfl ?_
  refine q_callVi hE (M' := mX7_seesNewName) (as := []) dX7_readCheese_1 lk7_231 inX7_seesNewName seX7_seesNewName myX7_seesNewName (by decide) ⟨by decide, by decide⟩ rfl (kR7 hS0.1 ta0) (Nat.le_of_ble_eq_true rfl) rfl rfl (by decide) (by decide) (fk_X7_seesNewName hS0.1 (gB) (gs) (gQ) ta0 hN (by (try rw [c6]); first | done | with_reducible assumption | omega) (by (try rw [c10]); first | done | with_reducible assumption | omega) (by (try rw [c14]); first | done | assumption) (fun q0 z0 => by obtain rfl := Option.some.inj ((d24).symm.trans z0); (try rw [c30]); first | done | with_reducible assumption | omega) (fun q0 z0 => by obtain rfl := Option.some.inj ((d24).symm.trans z0); (try rw [c34]); first | done | with_reducible assumption | omega)) ?_
  rintro v52 cn' K' N' I47 R48 L49 ⟨rfl, rfl, rfl, rfl, rfl, g50, h53, dj54, -⟩
  have hS55 := hS0.tr g50 (by decide +kernel) (by decide +kernel)
  have c56 : I47 a0 2 = v1 := (g50.cell ta0 (by decide +kernel)).trans c2
  have c57 : I47 a0 4 = v5 := (g50.cell ta0 (by decide +kernel)).trans c6
  have c58 : I47 a0 3 = v9 := (g50.cell ta0 (by decide +kernel)).trans c10
  have c59 : I47 a0 6 = v16 := (g50.cell ta0 (by decide +kernel)).trans c17
  have c60 : I47 a23 5 = v29 := (g50.cell ta23 (by decide +kernel)).trans c30
  have c61 : I47 a23 7 = v39 := (g50.cell ta23 (by decide +kernel)).trans c40
  have hO62 : FrO 2 a23 T I0 I47 := hO0.st g50 (by decide +kernel)
  rcases dj54 with ⟨p63, p64, p65, p66, p67, p68, -⟩ | ⟨p69, p70, p71, p72, -⟩ | ⟨p73, p74, p75, p76, p77, -⟩
  · skip
    obtain ⟨v78, c79⟩ : ∃ v, I47 a0 15 = v := ⟨_, rfl⟩
    rw [c79] at p64
    rw [c44] at p64
    replace hF := hF.neg (by exact om_e4d065d5 p65)
    replace hP := hP.neg (by exact om_e4d065d5 p65)
    replace hF := hF.neg (by exact om_e6f60cd2 p67 p68)
    replace hP := hP.neg (by exact om_e6f60cd2 p67 p68)
    refine q_if_ne 9 dX7_readCheese_4 (by decide) (fun h80 => ?_) (fun h80 => ?_)
    · skip
      refine tr_aload_n dX7_readCheese_9 rfl ?_
      refine tr_getR dX7_readCheese_10 fl7_22 (kR7 hS55.1 ta0) d24 ?_
      refine q_getI dX7_readCheese_13 fl7_61 (kR2 hS55.1 ta23) c60 ?_
      refine tr_istore_n dX7_readCheese_16 (by decide) (by decide) ?_
      refine tr_aload_n dX7_readCheese_17 rfl ?_
      obtain ⟨a81, d82, ta81⟩ := rf7_13 hW0 ta0
      refine tr_getR dX7_readCheese_18 fl7_9 (kR7 hS55.1 ta0) d82 ?_
      refine tr_iload_n dX7_readCheese_21 rfl ?_
      refine tr_aload_n dX7_readCheese_22 rfl ?_
      have p83 := p15 (by exact om_ee8a1e2d p66)
      refine q_getLE dX7_readCheese_23 fl7_78 (kR7 hS55.1 ta0) c14 ?_
      refine q_lastE dX7_readCheese_26 (kR25 hS55.1 ta81) (ti_in (nR25 hS55.1 ta81) (by exact om_bd20c0b9 pre9 b31.2 b31.1 p32) (by exact om_ab088807 pre9 b31.2 b31.1 p32)) hL0 ta81 (by rfl) ?_
      intro L84 hL85 e86 f87
      have c88 : L84 a0 5 = y13 := (f87 _ _ (fun q => by have z := ta0; rw [q.1, ta81] at z; exact absurd z (by decide))).trans c14
      have hN89 : NmC L84 R0 a0 gQ := NmC.w13 hN hS55.1 ta0 d82 f87 (by have q := ti_nat (i := v29) (by exact om_bd20c0b9 pre9 b31.2 b31.1 p32); exact om_eac64b98 p32 q)
      refine tr_aload_n dX7_readCheese_27 rfl ?_
      refine q_callVv hE (M' := mX7_step) (as := []) dX7_readCheese_28 lk7_51 inX7_step seX7_step myX7_step (by decide) ⟨by decide, by decide⟩ rfl (kR7 hS55.1 ta0) (Nat.le_of_ble_eq_true rfl) rfl rfl (by decide) (by decide) (fk_X7_step hS55.1 (gB) ((tkN gB gs)) ta0 (TxA.kp hT hS55 ta0 rfl rfl rfl (by decide +kernel) (by decide +kernel)) (by (try rw [c56]); first | done | with_reducible assumption | omega) (by (try rw [((hS55.cell ta0 (by decide +kernel)).trans c20)]); first | done | with_reducible assumption | omega)) ?_
      rintro cn' K' N' I90 R91 L92 ⟨rfl, rfl, rfl, rfl, g93, gl94, p96, p97, p98, p99, p100, -⟩
      have hS101 := hS55.tr g93 (by decide +kernel) (by decide +kernel)
      have c102 : I90 a23 5 = v29 := (g93.cell ta23 (by decide +kernel)).trans c60
      have c103 : I90 a23 7 = v39 := (g93.cell ta23 (by decide +kernel)).trans c61
      have c104 : I90 a0 15 = v78 := (g93.cell ta0 (by decide +kernel)).trans c79
      have hO105 : FrO 2 a23 T I0 I90 := hO62.st g93 (by decide +kernel)
      have hL106 := hL85.tr gl94 (by decide +kernel)
      have c107 : L92 a81 v29.toNatClampNeg = y13 := (gl94.cell ta81 (wm_no (by decide +kernel))).trans e86
      have hN108 : NmC L92 R0 a0 gQ := NmC.kp hN89 gl94 hS101.1 ta0 (by decide +kernel) (by decide +kernel)
      obtain ⟨v109, c110⟩ : ∃ v, I90 a0 2 = v := ⟨_, rfl⟩
      have b111 := iv7_2 hS101.1 ta0 c110
      rw [c110] at p96
      obtain ⟨v112, c113⟩ : ∃ v, I90 a0 4 = v := ⟨_, rfl⟩
      have b114 := iv7_4 hS101.1 ta0 c113
      rw [c113] at p97
      obtain ⟨v115, c116⟩ : ∃ v, I90 a0 3 = v := ⟨_, rfl⟩
      have b117 := iv7_3 hS101.1 ta0 c116
      rw [c116] at p98
      obtain ⟨y118, c119⟩ : ∃ v, L92 a0 5 = v := ⟨_, rfl⟩
      rw [c119] at p99
      obtain ⟨v120, c121⟩ : ∃ v, I90 a0 6 = v := ⟨_, rfl⟩
      rw [c121] at p100
      refine tr_aload_n dX7_readCheese_31 rfl ?_
      refine tr_ldcS dX7_readCheese_32 ld7_234 ?_
      refine q_callVi hE (M' := mX7_takeWord) (as := [_]) dX7_readCheese_34 lk7_126 inX7_takeWord seX7_takeWord myX7_takeWord (by decide) ⟨by decide, by decide⟩ rfl (kR7 hS101.1 ta0) (Nat.le_of_ble_eq_true rfl) rfl rfl (by decide) (by decide) (fk_X7_takeWord hS101.1 (gB) ((tkN gB gs)) ta0 (by decide) (TxA.kp hT hS101 ta0 rfl rfl rfl (by decide +kernel) (by decide +kernel)) (by (try rw [c110]); first | done | with_reducible assumption | omega) (by (try rw [c113]); first | done | with_reducible assumption | omega) (by (try rw [c116]); first | done | with_reducible assumption | omega) (by (try rw [c119]); first | done | assumption) (by (try rw [c121]); first | done | assumption) (by (try rw [((hS101.cell ta0 (by decide +kernel)).trans c20)]); first | done | with_reducible assumption | omega)) ?_
      rintro v127 cn' K' N' I122 R123 L124 ⟨rfl, rfl, rfl, rfl, g125, gl126, h128, dj129, -⟩
      (try rw [pk_15] at dj129)
      have hS130 := hS101.tr g125 (by decide +kernel) (by decide +kernel)
      have c131 : I122 a23 5 = v29 := (g125.cell ta23 (by decide +kernel)).trans c102
      have c132 : I122 a23 7 = v39 := (g125.cell ta23 (by decide +kernel)).trans c103
      have hO133 : FrO 2 a23 T I0 I122 := hO105.st g125 (by decide +kernel)
      have hL134 := hL106.tr gl126 (by decide +kernel)
      have c135 : L124 a81 v29.toNatClampNeg = y13 := (gl126.cell ta81 (wm_no (by decide +kernel))).trans c107
      have hN136 : NmC L124 R0 a0 gQ := NmC.kp hN108 gl126 hS130.1 ta0 (by decide +kernel) (by decide +kernel)
      rcases dj129 with ⟨p137, p138, p139, p140, p141, p142, p143, p144, p145, -⟩ | ⟨p146, p147, p148, p149, -⟩
      · skip
        obtain ⟨v150, c151⟩ : ∃ v, I122 a0 15 = v := ⟨_, rfl⟩
        rw [c151] at p138
        rw [c104] at p138
        obtain ⟨v152, c153⟩ : ∃ v, I122 a0 2 = v := ⟨_, rfl⟩
        have b154 := iv7_2 hS130.1 ta0 c153
        rw [c153] at p141
        obtain ⟨v155, c156⟩ : ∃ v, I122 a0 4 = v := ⟨_, rfl⟩
        have b157 := iv7_4 hS130.1 ta0 c156
        rw [c156] at p142
        obtain ⟨v158, c159⟩ : ∃ v, I122 a0 3 = v := ⟨_, rfl⟩
        have b160 := iv7_3 hS130.1 ta0 c159
        rw [c159] at p143
        obtain ⟨y161, c162⟩ : ∃ v, L124 a0 5 = v := ⟨_, rfl⟩
        rw [c162] at p144
        obtain ⟨v163, c164⟩ : ∃ v, I122 a0 6 = v := ⟨_, rfl⟩
        rw [c164] at p145
        replace hF := hF.neg (by exact om_28513e2f p139 p140)
        replace hP := hP.neg (by exact om_28513e2f p139 p140)
        refine q_if_eq 47 dX7_readCheese_37 (by decide) (fun h165 => ?_) (fun h165 => ?_)
        · skip
          exfalso; exact om_3624102b p137 h165
        · skip
          refine tr_aload_n dX7_readCheese_40 rfl ?_
          refine q_callVi hE (M' := mX7_takeHut) (as := []) dX7_readCheese_41 lk7_223 inX7_takeHut seX7_takeHut myX7_takeHut (by decide) ⟨by decide, by decide⟩ rfl (kR7 hS130.1 ta0) (Nat.le_of_ble_eq_true rfl) rfl rfl (by decide) (by decide) (fk_X7_takeHut hS130.1 (gB) ((tkN gB (tkN gB gs))) (gQ) ta0 (TxA.kp hT hS130 ta0 rfl rfl rfl (by decide +kernel) (by decide +kernel)) (by (try rw [c153]); first | done | with_reducible assumption | omega) (by (try rw [c156]); first | done | with_reducible assumption | omega) (by (try rw [c159]); first | done | with_reducible assumption | omega) (by (try rw [c162]); first | done | assumption) (by (try rw [c164]); first | done | assumption) (by (try rw [((hS130.cell ta0 (by decide +kernel)).trans c20)]); first | done | with_reducible assumption | omega) (fun q0 z0 => by obtain rfl := Option.some.inj ((d24).symm.trans z0); (try rw [((hS130.cell ta23 (by decide +kernel)).trans c26)]); first | done | with_reducible assumption | omega)) ?_
          rintro v171 cn' K' N' I166 R167 L168 ⟨rfl, rfl, rfl, rfl, g169, gl170, h172, dj173, -⟩
          have hS174 := hS130.tr g169 (by decide +kernel) (by decide +kernel)
          have c175 : I166 a23 5 = v29 := (g169.cell ta23 (by decide +kernel)).trans c131
          have c176 : I166 a23 7 = v39 := (g169.cell ta23 (by decide +kernel)).trans c132
          have hO177 : FrO 2 a23 T I0 I166 := hO133.st g169 (by decide +kernel)
          have hL178 := hL134.tr gl170 (by decide +kernel)
          have c179 : L168 a81 v29.toNatClampNeg = y13 := (gl170.cell ta81 (wm_no (by decide +kernel))).trans c135
          have hN180 : NmC L168 R0 a0 gQ := NmC.kp hN136 gl170 hS174.1 ta0 (by decide +kernel) (by decide +kernel)
          rcases dj173 with ⟨p181, p182, p183, p184, p185, p186, p187, p188, p189, p190, p191, -⟩ | ⟨p192, p193, p194, p195, -⟩ | ⟨p196, p197, p198, p199, p200, -⟩
          · skip
            obtain ⟨v201, c202⟩ : ∃ v, I166 a0 15 = v := ⟨_, rfl⟩
            rw [c202] at p182
            rw [c151] at p182
            obtain ⟨v203, c204⟩ : ∃ v, I166 a0 7 = v := ⟨_, rfl⟩
            have b205 := iv7_7 hS174.1 ta0 c204
            rw [c204] at p186
            obtain ⟨v206, c207⟩ : ∃ v, I166 a0 2 = v := ⟨_, rfl⟩
            have b208 := iv7_2 hS174.1 ta0 c207
            rw [c207] at p187
            obtain ⟨v209, c210⟩ : ∃ v, I166 a0 4 = v := ⟨_, rfl⟩
            have b211 := iv7_4 hS174.1 ta0 c210
            rw [c210] at p188
            obtain ⟨v212, c213⟩ : ∃ v, I166 a0 3 = v := ⟨_, rfl⟩
            have b214 := iv7_3 hS174.1 ta0 c213
            rw [c213] at p189
            obtain ⟨y215, c216⟩ : ∃ v, L168 a0 5 = v := ⟨_, rfl⟩
            rw [c216] at p190
            obtain ⟨v217, c218⟩ : ∃ v, I166 a0 6 = v := ⟨_, rfl⟩
            rw [c218] at p191
            replace hF := hF.neg (by exact om_10ed11b5 p183)
            replace hP := hP.neg (by exact om_10ed11b5 p183)
            replace hF := hF.neg (by exact om_4fadaeb8 p184 p185 p186 b205.2)
            replace hP := hP.neg (by exact om_4fadaeb8 p184 p185 p186 b205.2)
            refine q_if_ne 49 dX7_readCheese_44 (by decide) (fun h219 => ?_) (fun h219 => ?_)
            · skip
              refine tr_aload_n dX7_readCheese_49 rfl ?_
              refine tr_getR dX7_readCheese_50 fl7_22 (kR7 hS174.1 ta0) d24 ?_
              refine tr_getR dX7_readCheese_53 fl7_235 (kR2 hS174.1 ta23) d46 ?_
              refine tr_iload_n dX7_readCheese_56 rfl ?_
              refine tr_aload_n dX7_readCheese_57 rfl ?_
              refine q_getI dX7_readCheese_58 fl7_109 (kR7 hS174.1 ta0) c204 ?_
              refine q_iast dX7_readCheese_61 (kR20 hS174.1 ta45) (ti_in (nR20 hS174.1 ta45) (by exact om_bd20c0b9 pre9 b31.2 b31.1 p32) (by exact om_ab088807 pre9 b31.2 b31.1 p32)) hS174 ta45 (iokF rfl) rfl (by rfl) ?_
              intro I220 hS221 e223 f222
              have c224 : I220 a23 5 = v29 := (f222 _ _ (fun q => by have z := ta23; rw [q.1, ta45] at z; exact absurd z (by decide))).trans c175
              have c225 : I220 a23 7 = v39 := (f222 _ _ (fun q => by have z := ta23; rw [q.1, ta45] at z; exact absurd z (by decide))).trans c176
              have c226 : I220 a0 15 = v201 := (f222 _ _ (fun q => by have z := ta0; rw [q.1, ta45] at z; exact absurd z (by decide))).trans c202
              have c227 : I220 a0 7 = v203 := (f222 _ _ (fun q => by have z := ta0; rw [q.1, ta45] at z; exact absurd z (by decide))).trans c204
              have c228 : I220 a0 2 = v206 := (f222 _ _ (fun q => by have z := ta0; rw [q.1, ta45] at z; exact absurd z (by decide))).trans c207
              have c229 : I220 a0 4 = v209 := (f222 _ _ (fun q => by have z := ta0; rw [q.1, ta45] at z; exact absurd z (by decide))).trans c210
              have c230 : I220 a0 3 = v212 := (f222 _ _ (fun q => by have z := ta0; rw [q.1, ta45] at z; exact absurd z (by decide))).trans c213
              have c231 : I220 a0 6 = v217 := (f222 _ _ (fun q => by have z := ta0; rw [q.1, ta45] at z; exact absurd z (by decide))).trans c218
              have hO232 : FrO 2 a23 T I0 I220 := hO177.put f222 ta45 (Or.inl (by decide))
              refine tr_aload_n dX7_readCheese_62 rfl ?_
              refine tr_ldcS dX7_readCheese_63 ld7_238 ?_
              refine q_callVi hE (M' := mX7_seesWord) (as := [_]) dX7_readCheese_65 lk7_101 inX7_seesWord seX7_seesWord myX7_seesWord (by decide) ⟨by decide, by decide⟩ rfl (kR7 hS221.1 ta0) (Nat.le_of_ble_eq_true rfl) rfl rfl (by decide) (by decide) (fk_X7_seesWord hS221.1 (gB) ((tkN gB (tkN gB (tkN gB gs)))) ta0 (by decide) (by (try rw [c230]); first | done | with_reducible assumption | omega) (by (try rw [c216]); first | done | assumption)) ?_
              rintro v238 cn' K' N' I233 R234 L235 ⟨rfl, rfl, rfl, rfl, rfl, rfl, h239, dj240, -⟩
              (try rw [pk_10] at dj240)
              rcases dj240 with ⟨p241, p242, p243, -⟩ | ⟨p244, p245, -⟩
              · skip
                refine q_if_eq 78 dX7_readCheese_68 (by decide) (fun h246 => ?_) (fun h246 => ?_)
                · skip
                  exfalso; exact om_3624102b p241 h246
                · skip
                  refine tr_aload_n dX7_readCheese_71 rfl ?_
                  refine q_callVv hE (M' := mX7_step) (as := []) dX7_readCheese_72 lk7_51 inX7_step seX7_step myX7_step (by decide) ⟨by decide, by decide⟩ rfl (kR7 hS221.1 ta0) (Nat.le_of_ble_eq_true rfl) rfl rfl (by decide) (by decide) (fk_X7_step hS221.1 (gB) ((tkN gB (tkN gB (tkN gB (tkN gB gs))))) ta0 (TxA.kp hT hS221 ta0 rfl rfl rfl (by decide +kernel) (by decide +kernel)) (by (try rw [c228]); first | done | with_reducible assumption | omega) (by (try rw [((hS221.cell ta0 (by decide +kernel)).trans c20)]); first | done | with_reducible assumption | omega)) ?_
                  rintro cn' K' N' I247 R248 L249 ⟨rfl, rfl, rfl, rfl, g250, gl251, p253, p254, p255, p256, p257, -⟩
                  have hS258 := hS221.tr g250 (by decide +kernel) (by decide +kernel)
                  have c259 : I247 a23 5 = v29 := (g250.cell ta23 (by decide +kernel)).trans c224
                  have c260 : I247 a23 7 = v39 := (g250.cell ta23 (by decide +kernel)).trans c225
                  have c261 : I247 a0 15 = v201 := (g250.cell ta0 (by decide +kernel)).trans c226
                  have c262 : I247 a0 7 = v203 := (g250.cell ta0 (by decide +kernel)).trans c227
                  have hO263 : FrO 2 a23 T I0 I247 := hO232.st g250 (by decide +kernel)
                  have hL264 := hL178.tr gl251 (by decide +kernel)
                  have c265 : L249 a81 v29.toNatClampNeg = y13 := (gl251.cell ta81 (wm_no (by decide +kernel))).trans c179
                  have hN266 : NmC L249 R0 a0 gQ := NmC.kp hN180 gl251 hS258.1 ta0 (by decide +kernel) (by decide +kernel)
                  obtain ⟨v267, c268⟩ : ∃ v, I247 a0 2 = v := ⟨_, rfl⟩
                  have b269 := iv7_2 hS258.1 ta0 c268
                  rw [c268] at p253
                  obtain ⟨v270, c271⟩ : ∃ v, I247 a0 4 = v := ⟨_, rfl⟩
                  have b272 := iv7_4 hS258.1 ta0 c271
                  rw [c271] at p254
                  obtain ⟨v273, c274⟩ : ∃ v, I247 a0 3 = v := ⟨_, rfl⟩
                  have b275 := iv7_3 hS258.1 ta0 c274
                  rw [c274] at p255
                  obtain ⟨y276, c277⟩ : ∃ v, L249 a0 5 = v := ⟨_, rfl⟩
                  rw [c277] at p256
                  obtain ⟨v278, c279⟩ : ∃ v, I247 a0 6 = v := ⟨_, rfl⟩
                  rw [c279] at p257
                  refine tr_goto 93 dX7_readCheese_75 (by decide) ?_
                  refine tr_aload_n dX7_readCheese_93 rfl ?_
                  refine tr_getR dX7_readCheese_94 fl7_22 (kR7 hS258.1 ta0) d24 ?_
                  refine tr_dup dX7_readCheese_97 rfl ?_
                  refine q_getI dX7_readCheese_98 fl7_61 (kR2 hS258.1 ta23) c259 ?_
                  refine q_iconst dX7_readCheese_101 (by decide) ?_
                  intro v280 h281
                  refine q_iaddE dX7_readCheese_102 (by intro j1 j2 j3 j4; exact om_ea1db01a pre9 b31.2 b31.1 p32 h281) ?_
                  intro v282 h283
                  refine q_putI dX7_readCheese_103 fl7_61 (kR2 hS258.1 ta23) (Or.inl rfl) hS258 ta23 (by show (0 : Int) ≤ v282.toInt ∧ v282.toInt ≤ (8 : Int); exact om_7c38f977 pre9 b31.2 b31.1 p32 h281 h283) rfl (by decide +kernel) ?_
                  intro I284 hS285 e286 f287
                  have c288 : I284 a23 7 = v39 := (f287 _ _ (fun q => absurd q.2 (by decide))).trans c260
                  have c289 : I284 a0 15 = v201 := (f287 _ _ (fun q => absurd q.2 (by decide))).trans c261
                  have c290 : I284 a0 7 = v203 := (f287 _ _ (fun q => absurd q.2 (by decide))).trans c262
                  have c291 : I284 a0 2 = v267 := (f287 _ _ (fun q => absurd q.2 (by decide))).trans c268
                  have c292 : I284 a0 4 = v270 := (f287 _ _ (fun q => absurd q.2 (by decide))).trans c271
                  have c293 : I284 a0 3 = v273 := (f287 _ _ (fun q => absurd q.2 (by decide))).trans c274
                  have c294 : I284 a0 6 = v278 := (f287 _ _ (fun q => absurd q.2 (by decide))).trans c279
                  have hO295 : FrO 2 a23 T I0 I284 := hO263.put f287 ta23 (Or.inr rfl)
                  refine q_iconst dX7_readCheese_106 (by decide) ?_
                  intro v296 h297
                  have eF := hF.eq
                  have eP := hP.eq
                  have es298 : chS gB gQ gs = (tkN gB (tkN gB (tkN gB (tkN gB gs)))) := by exact om_67758a6f p242 p243
                  have eu299 : bdQ gB gQ 5 gs 9 = gQ 9 := by exact om_2ddaaa01 pre9 b31.2 b31.1 p32 p242 p243 h281 h283
                  obtain ⟨v300, c301⟩ : ∃ v, I284 a0 16 = v := ⟨_, rfl⟩
                  exact tr_zret hZ dX7_readCheese_107 rfl (ti_b01 (by exact om_f9079521 h297) (by exact om_e6632817 h297)) (by decide) (by decide) ⟨v296, rfl, rfl, rfl, rfl, rfl, hS285, hL264, (by exact om_d753bc65 h297), (fun al h1 => by obtain rfl := Option.some.inj (d24.symm.trans h1); exact ((((((((FrK.rf (R := R0) (al := a23) (W := fun u => u = 35) (T := T)).st g50 (by decide +kernel)).st g93 (by decide +kernel)).st g125 (by decide +kernel)).st g169 (by decide +kernel)).pu f222 (by exact om_436b56e8) rfl (ObH d46)).st g250 (by decide +kernel)).put f287 ta23 (by decide))), (fun dr hd => (Option.some.inj (d24.symm.trans hd)) ▸ hO295), (Or.inl ⟨(by (try rw [es298]); first | done | with_reducible assumption | omega), (by (try rw [es298]); (try rw [c289]); (try rw [c44]); first | done | with_reducible assumption | exact om_1c22ab7e p64 p138 p182), (by (try rw [es298]); first | done | with_reducible assumption | omega), (fun q0 z0 => by obtain rfl := Option.some.inj ((d24).symm.trans z0); (try rw [es298]); (try rw [e286]); first | done | with_reducible assumption | exact om_58c7f992 p32 h281 h283), (by (try rw [es298]); (try rw [c291]); first | done | with_reducible assumption | omega), (by (try rw [es298]); (try rw [c292]); first | done | with_reducible assumption | omega), (by (try rw [es298]); (try rw [c293]); first | done | with_reducible assumption | omega), (by (try rw [es298]); (try rw [c277]); first | done | assumption), (by (try rw [es298]); (try rw [c294]); first | done | assumption), (fun q0 z0 => by obtain rfl := Option.some.inj ((d24).symm.trans z0); (try rw [es298]); (try rw [c288]); first | done | with_reducible assumption | exact om_2757374c p41 eu299), (NmC.up3 hN266 d82 (by rw [c265]; exact om_acd7a85a p83) (by have q := ti_nat (i := v29) (by exact om_b2fb2c72 pre9 b31.2 b31.1 p32 h281 h283); exact om_24c30391 p32 h281 h283 q) (by exact om_7ca80ae8 pre9 b31.2 b31.1 p32 h281 h283) (by exact om_8bcc88d8 p38)), (fun al t h1 h2 => by obtain rfl := Option.some.inj (d24.symm.trans h1); obtain rfl := Option.some.inj (d46.symm.trans h2); have zi : v29.toNatClampNeg = (gQ 3).toNat := congrArg Int.toNat (by exact om_acd7a85a p32); have ze := (Eq.trans ((f287 _ _ (fun q => by have z := ta45; rw [q.1, ta23] at z; exact absurd z (by decide))).trans (g250.cell ta45 (wm_no (by decide +kernel)))) e223); rw [zi] at ze; exact ⟨by rw [ze]; exact om_acd7a85a p186, fun j hj => ((f287 _ _ (fun q => by have z := ta45; rw [q.1, ta23] at z; exact absurd z (by decide))).trans ((g250.cell ta45 (wm_no (by decide +kernel))).trans ((f222 _ _ (fun q => hj (q.2.trans zi))).trans ((g169.cell ta45 (wm_no (by decide +kernel))).trans ((g125.cell ta45 (wm_no (by decide +kernel))).trans ((g93.cell ta45 (wm_no (by decide +kernel))).trans (g50.cell ta45 (wm_no (by decide +kernel)))))))))⟩), trivial⟩), trivial⟩
              · skip
                refine q_if_eq 78 dX7_readCheese_68 (by decide) (fun h302 => ?_) (fun h302 => ?_)
                · skip
                  refine tr_aload_n dX7_readCheese_78 rfl ?_
                  refine tr_getR dX7_readCheese_79 fl7_22 (kR7 hS221.1 ta0) d24 ?_
                  refine tr_dup dX7_readCheese_82 rfl ?_
                  refine q_getI dX7_readCheese_83 fl7_240 (kR2 hS221.1 ta23) c225 ?_
                  refine q_iconst dX7_readCheese_86 (by decide) ?_
                  intro v303 h304
                  refine tr_iload_n dX7_readCheese_87 rfl ?_
                  refine tr_ishl dX7_readCheese_88 ?_
                  refine tr_ior dX7_readCheese_89 ?_
                  obtain ⟨v305, lx306⟩ : ∃ z, z = v39 ||| (v303 <<< (v29 &&& 31)) := ⟨_, rfl⟩
                  rw [← lx306]
                  have p307 : v305.toInt = v39.toInt + pw (gQ 3) := by have u := p42; unfold UpB at u; have zq : gQ 3 = v29.toInt := (by exact om_7847aadf p32); rw [lx306, zq]; exact up_or (by exact om_2967f832 p41 u.1) (by rw [← zq]; exact om_5775c5a9 p41 u.2.1) (by exact om_bd20c0b9 pre9 b31.2 b31.1 p32) (by exact om_9b05bc08 pre9 b31.2 b31.1 p32) (by exact om_ee8a1e2d h304)
                  refine q_putI dX7_readCheese_90 fl7_240 (kR2 hS221.1 ta23) (Or.inl rfl) hS221 ta23 (iokF rfl) rfl (by decide +kernel) ?_
                  intro I308 hS309 e310 f311
                  have c312 : I308 a23 5 = v29 := (f311 _ _ (fun q => absurd q.2 (by decide))).trans c224
                  have c313 : I308 a0 15 = v201 := (f311 _ _ (fun q => absurd q.2 (by decide))).trans c226
                  have c314 : I308 a0 7 = v203 := (f311 _ _ (fun q => by have z := ta0; rw [q.1, ta23] at z; exact absurd z (by decide))).trans c227
                  have c315 : I308 a0 2 = v206 := (f311 _ _ (fun q => absurd q.2 (by decide))).trans c228
                  have c316 : I308 a0 4 = v209 := (f311 _ _ (fun q => absurd q.2 (by decide))).trans c229
                  have c317 : I308 a0 3 = v212 := (f311 _ _ (fun q => absurd q.2 (by decide))).trans c230
                  have c318 : I308 a0 6 = v217 := (f311 _ _ (fun q => absurd q.2 (by decide))).trans c231
                  have hO319 : FrO 2 a23 T I0 I308 := hO232.put f311 ta23 (Or.inr rfl)
                  refine tr_aload_n dX7_readCheese_93 rfl ?_
                  refine tr_getR dX7_readCheese_94 fl7_22 (kR7 hS309.1 ta0) d24 ?_
                  refine tr_dup dX7_readCheese_97 rfl ?_
                  refine q_getI dX7_readCheese_98 fl7_61 (kR2 hS309.1 ta23) c312 ?_
                  refine q_iconst dX7_readCheese_101 (by decide) ?_
                  intro v320 h321
                  refine q_iaddE dX7_readCheese_102 (by intro j1 j2 j3 j4; exact om_ea1db01a pre9 b31.2 b31.1 p32 h321) ?_
                  intro v322 h323
                  refine q_putI dX7_readCheese_103 fl7_61 (kR2 hS309.1 ta23) (Or.inl rfl) hS309 ta23 (by show (0 : Int) ≤ v322.toInt ∧ v322.toInt ≤ (8 : Int); exact om_7c38f977 pre9 b31.2 b31.1 p32 h321 h323) rfl (by decide +kernel) ?_
                  intro I324 hS325 e326 f327
                  have c328 : I324 a0 15 = v201 := (f327 _ _ (fun q => absurd q.2 (by decide))).trans c313
                  have c329 : I324 a0 7 = v203 := (f327 _ _ (fun q => absurd q.2 (by decide))).trans c314
                  have c330 : I324 a0 2 = v206 := (f327 _ _ (fun q => absurd q.2 (by decide))).trans c315
                  have c331 : I324 a0 4 = v209 := (f327 _ _ (fun q => absurd q.2 (by decide))).trans c316
                  have c332 : I324 a0 3 = v212 := (f327 _ _ (fun q => absurd q.2 (by decide))).trans c317
                  have c333 : I324 a0 6 = v217 := (f327 _ _ (fun q => absurd q.2 (by decide))).trans c318
                  have c334 : I324 a23 7 = v305 := (f327 _ _ (fun q => absurd q.2 (by decide))).trans e310
                  have hO335 : FrO 2 a23 T I0 I324 := hO319.put f327 ta23 (Or.inr rfl)
                  refine q_iconst dX7_readCheese_106 (by decide) ?_
                  intro v336 h337
                  have eF := hF.eq
                  have eP := hP.eq
                  have es338 : chS gB gQ gs = (tkN gB (tkN gB (tkN gB gs))) := by exact om_1f10ef37 p245
                  have eu339 : bdQ gB gQ 5 gs 9 = gQ 9 + pw (gQ 3) := by exact om_2fe005b9 pre9 b31.2 b31.1 p32 p245 h321 h323
                  obtain ⟨v340, c341⟩ : ∃ v, I324 a0 16 = v := ⟨_, rfl⟩
                  exact tr_zret hZ dX7_readCheese_107 rfl (ti_b01 (by exact om_f9079521 h337) (by exact om_e6632817 h337)) (by decide) (by decide) ⟨v336, rfl, rfl, rfl, rfl, rfl, hS325, hL178, (by exact om_d753bc65 h337), (fun al h1 => by obtain rfl := Option.some.inj (d24.symm.trans h1); exact ((((((((FrK.rf (R := R0) (al := a23) (W := fun u => u = 35) (T := T)).st g50 (by decide +kernel)).st g93 (by decide +kernel)).st g125 (by decide +kernel)).st g169 (by decide +kernel)).pu f222 (by exact om_436b56e8) rfl (ObH d46)).put f311 ta23 (by decide)).put f327 ta23 (by decide))), (fun dr hd => (Option.some.inj (d24.symm.trans hd)) ▸ hO335), (Or.inl ⟨(by (try rw [es338]); first | done | with_reducible assumption | omega), (by (try rw [es338]); (try rw [c328]); (try rw [c44]); first | done | with_reducible assumption | exact om_1c22ab7e p64 p138 p182), (by (try rw [es338]); first | done | with_reducible assumption | omega), (fun q0 z0 => by obtain rfl := Option.some.inj ((d24).symm.trans z0); (try rw [es338]); (try rw [e326]); first | done | with_reducible assumption | exact om_58c7f992 p32 h321 h323), (by (try rw [es338]); (try rw [c330]); first | done | with_reducible assumption | omega), (by (try rw [es338]); (try rw [c331]); first | done | with_reducible assumption | omega), (by (try rw [es338]); (try rw [c332]); first | done | with_reducible assumption | omega), (by (try rw [es338]); (try rw [c216]); first | done | assumption), (by (try rw [es338]); (try rw [c333]); first | done | assumption), (fun q0 z0 => by obtain rfl := Option.some.inj ((d24).symm.trans z0); (try rw [es338]); (try rw [c334]); first | done | with_reducible assumption | exact om_3372d622 p41 p307 eu339), (NmC.up3 hN180 d82 (by rw [c179]; exact om_acd7a85a p83) (by have q := ti_nat (i := v29) (by exact om_b2fb2c72 pre9 b31.2 b31.1 p32 h321 h323); exact om_24c30391 p32 h321 h323 q) (by exact om_7ca80ae8 pre9 b31.2 b31.1 p32 h321 h323) (by exact om_8bcc88d8 p38)), (fun al t h1 h2 => by obtain rfl := Option.some.inj (d24.symm.trans h1); obtain rfl := Option.some.inj (d46.symm.trans h2); have zi : v29.toNatClampNeg = (gQ 3).toNat := congrArg Int.toNat (by exact om_acd7a85a p32); have ze := (Eq.trans ((f327 _ _ (fun q => by have z := ta45; rw [q.1, ta23] at z; exact absurd z (by decide))).trans (f311 _ _ (fun q => by have z := ta45; rw [q.1, ta23] at z; exact absurd z (by decide)))) e223); rw [zi] at ze; exact ⟨by rw [ze]; exact om_acd7a85a p186, fun j hj => ((f327 _ _ (fun q => by have z := ta45; rw [q.1, ta23] at z; exact absurd z (by decide))).trans ((f311 _ _ (fun q => by have z := ta45; rw [q.1, ta23] at z; exact absurd z (by decide))).trans ((f222 _ _ (fun q => hj (q.2.trans zi))).trans ((g169.cell ta45 (wm_no (by decide +kernel))).trans ((g125.cell ta45 (wm_no (by decide +kernel))).trans ((g93.cell ta45 (wm_no (by decide +kernel))).trans (g50.cell ta45 (wm_no (by decide +kernel)))))))))⟩), trivial⟩), trivial⟩
                · skip
                  exfalso; exact om_3a97d4a5 p244 h302
            · skip
              exfalso; exact om_3624102b p181 h219
          · skip
            obtain ⟨v342, c343⟩ : ∃ v, I166 a0 15 = v := ⟨_, rfl⟩
            rw [c343] at p194
            obtain ⟨v344, c345⟩ : ∃ v, I166 a0 16 = v := ⟨_, rfl⟩
            rw [c345] at p195
            replace hF := hF.pos (by exact om_73cc8e29 p193)
            replace hP := hP.pos (by exact om_73cc8e29 p193)
            refine q_if_ne 49 dX7_readCheese_44 (by decide) (fun h346 => ?_) (fun h346 => ?_)
            · skip
              exfalso; exact om_3a97d4a5 p192 h346
            · skip
              refine q_iconst dX7_readCheese_47 (by decide) ?_
              intro v347 h348
              have eF := hF.eq
              have eP := hP.eq
              obtain ⟨v349, c350⟩ : ∃ v, I166 a0 2 = v := ⟨_, rfl⟩
              have b351 := iv7_2 hS174.1 ta0 c350
              obtain ⟨v352, c353⟩ : ∃ v, I166 a0 4 = v := ⟨_, rfl⟩
              have b354 := iv7_4 hS174.1 ta0 c353
              obtain ⟨v355, c356⟩ : ∃ v, I166 a0 3 = v := ⟨_, rfl⟩
              have b357 := iv7_3 hS174.1 ta0 c356
              obtain ⟨y358, c359⟩ : ∃ v, L168 a0 5 = v := ⟨_, rfl⟩
              obtain ⟨v360, c361⟩ : ∃ v, I166 a0 6 = v := ⟨_, rfl⟩
              exact tr_zret hZ dX7_readCheese_48 rfl (ti_b01 (by exact om_d99fa9e4 h348) (by exact om_d3de7ec9 h348)) (by decide) (by decide) ⟨v347, rfl, rfl, rfl, rfl, rfl, hS174, hL178, (by exact om_3b50ecb9 h348), (fun al h1 => by obtain rfl := Option.some.inj (d24.symm.trans h1); exact (((((FrK.rf (R := R0) (al := a23) (W := fun u => u = 35) (T := T)).st g50 (by decide +kernel)).st g93 (by decide +kernel)).st g125 (by decide +kernel)).st g169 (by decide +kernel))), (fun dr hd => (Option.some.inj (d24.symm.trans hd)) ▸ hO177), (Or.inr (⟨(by first | done | with_reducible assumption | omega), (by first | done | with_reducible assumption | exact om_7fac24c5 eF), (by (try rw [c343]); first | done | with_reducible assumption | exact om_3345b898 p194 eF), (by (try rw [c345]); first | done | with_reducible assumption | exact om_2757374c p195 eP), trivial⟩)), trivial⟩
          · skip
            obtain ⟨v362, c363⟩ : ∃ v, I166 a0 15 = v := ⟨_, rfl⟩
            rw [c363] at p199
            obtain ⟨v364, c365⟩ : ∃ v, I166 a0 16 = v := ⟨_, rfl⟩
            rw [c365] at p200
            replace hF := hF.neg (by exact om_10ed11b5 p197)
            replace hP := hP.neg (by exact om_10ed11b5 p197)
            replace hF := hF.pos (by exact om_1be6d535 p198)
            replace hP := hP.pos (by exact om_1be6d535 p198)
            refine q_if_ne 49 dX7_readCheese_44 (by decide) (fun h366 => ?_) (fun h366 => ?_)
            · skip
              exfalso; exact om_3a97d4a5 p196 h366
            · skip
              refine q_iconst dX7_readCheese_47 (by decide) ?_
              intro v367 h368
              have eF := hF.eq
              have eP := hP.eq
              obtain ⟨v369, c370⟩ : ∃ v, I166 a0 2 = v := ⟨_, rfl⟩
              have b371 := iv7_2 hS174.1 ta0 c370
              obtain ⟨v372, c373⟩ : ∃ v, I166 a0 4 = v := ⟨_, rfl⟩
              have b374 := iv7_4 hS174.1 ta0 c373
              obtain ⟨v375, c376⟩ : ∃ v, I166 a0 3 = v := ⟨_, rfl⟩
              have b377 := iv7_3 hS174.1 ta0 c376
              obtain ⟨y378, c379⟩ : ∃ v, L168 a0 5 = v := ⟨_, rfl⟩
              obtain ⟨v380, c381⟩ : ∃ v, I166 a0 6 = v := ⟨_, rfl⟩
              exact tr_zret hZ dX7_readCheese_48 rfl (ti_b01 (by exact om_d99fa9e4 h368) (by exact om_d3de7ec9 h368)) (by decide) (by decide) ⟨v367, rfl, rfl, rfl, rfl, rfl, hS174, hL178, (by exact om_3b50ecb9 h368), (fun al h1 => by obtain rfl := Option.some.inj (d24.symm.trans h1); exact (((((FrK.rf (R := R0) (al := a23) (W := fun u => u = 35) (T := T)).st g50 (by decide +kernel)).st g93 (by decide +kernel)).st g125 (by decide +kernel)).st g169 (by decide +kernel))), (fun dr hd => (Option.some.inj (d24.symm.trans hd)) ▸ hO177), (Or.inr (⟨(by first | done | with_reducible assumption | omega), (by first | done | with_reducible assumption | exact om_7b84bd42 eF), (by (try rw [c363]); first | done | with_reducible assumption | exact om_46d5da87 p199 eF), (by (try rw [c365]); first | done | with_reducible assumption | exact om_2757374c p200 eP), trivial⟩)), trivial⟩
      · skip
        obtain ⟨v382, c383⟩ : ∃ v, I122 a0 15 = v := ⟨_, rfl⟩
        rw [c383] at p148
        obtain ⟨v384, c385⟩ : ∃ v, I122 a0 16 = v := ⟨_, rfl⟩
        rw [c385] at p149
        replace hF := hF.pos (by exact om_88932fbe p147)
        replace hP := hP.pos (by exact om_88932fbe p147)
        refine q_if_eq 47 dX7_readCheese_37 (by decide) (fun h386 => ?_) (fun h386 => ?_)
        · skip
          refine q_iconst dX7_readCheese_47 (by decide) ?_
          intro v387 h388
          have eF := hF.eq
          have eP := hP.eq
          obtain ⟨v389, c390⟩ : ∃ v, I122 a0 2 = v := ⟨_, rfl⟩
          have b391 := iv7_2 hS130.1 ta0 c390
          obtain ⟨v392, c393⟩ : ∃ v, I122 a0 4 = v := ⟨_, rfl⟩
          have b394 := iv7_4 hS130.1 ta0 c393
          obtain ⟨v395, c396⟩ : ∃ v, I122 a0 3 = v := ⟨_, rfl⟩
          have b397 := iv7_3 hS130.1 ta0 c396
          obtain ⟨y398, c399⟩ : ∃ v, L124 a0 5 = v := ⟨_, rfl⟩
          obtain ⟨v400, c401⟩ : ∃ v, I122 a0 6 = v := ⟨_, rfl⟩
          exact tr_zret hZ dX7_readCheese_48 rfl (ti_b01 (by exact om_d99fa9e4 h388) (by exact om_d3de7ec9 h388)) (by decide) (by decide) ⟨v387, rfl, rfl, rfl, rfl, rfl, hS130, hL134, (by exact om_3b50ecb9 h388), (fun al h1 => by obtain rfl := Option.some.inj (d24.symm.trans h1); exact ((((FrK.rf (R := R0) (al := a23) (W := fun u => u = 35) (T := T)).st g50 (by decide +kernel)).st g93 (by decide +kernel)).st g125 (by decide +kernel))), (fun dr hd => (Option.some.inj (d24.symm.trans hd)) ▸ hO133), (Or.inr (⟨(by first | done | with_reducible assumption | omega), (by first | done | with_reducible assumption | exact om_7fac24c5 eF), (by (try rw [c383]); first | done | with_reducible assumption | exact om_3345b898 p148 eF), (by (try rw [c385]); first | done | with_reducible assumption | exact om_2757374c p149 eP), trivial⟩)), trivial⟩
        · skip
          exfalso; exact om_3a97d4a5 p146 h386
    · skip
      exfalso; exact om_3624102b p63 h80
  · skip
    obtain ⟨v402, c403⟩ : ∃ v, I47 a0 15 = v := ⟨_, rfl⟩
    rw [c403] at p71
    obtain ⟨v404, c405⟩ : ∃ v, I47 a0 16 = v := ⟨_, rfl⟩
    rw [c405] at p72
    replace hF := hF.pos (by exact om_ea380f8a p70)
    replace hP := hP.pos (by exact om_ea380f8a p70)
    refine q_if_ne 9 dX7_readCheese_4 (by decide) (fun h406 => ?_) (fun h406 => ?_)
    · skip
      exfalso; exact om_3a97d4a5 p69 h406
    · skip
      refine q_iconst dX7_readCheese_7 (by decide) ?_
      intro v407 h408
      have eF := hF.eq
      have eP := hP.eq
      exact tr_zret hZ dX7_readCheese_8 rfl (ti_b01 (by exact om_d99fa9e4 h408) (by exact om_d3de7ec9 h408)) (by decide) (by decide) ⟨v407, rfl, rfl, rfl, rfl, rfl, hS55, hL0, (by exact om_3b50ecb9 h408), (fun al h1 => by obtain rfl := Option.some.inj (d24.symm.trans h1); exact ((FrK.rf (R := R0) (al := a23) (W := fun u => u = 35) (T := T)).st g50 (by decide +kernel))), (fun dr hd => (Option.some.inj (d24.symm.trans hd)) ▸ hO62), (Or.inr (⟨(by first | done | with_reducible assumption | omega), (by first | done | with_reducible assumption | exact om_7fac24c5 eF), (by (try rw [c403]); first | done | with_reducible assumption | exact om_3345b898 p71 eF), (by (try rw [c405]); first | done | with_reducible assumption | exact om_86fa3162 p8 p72 eP), trivial⟩)), trivial⟩
  · skip
    obtain ⟨v409, c410⟩ : ∃ v, I47 a0 15 = v := ⟨_, rfl⟩
    rw [c410] at p76
    obtain ⟨v411, c412⟩ : ∃ v, I47 a0 16 = v := ⟨_, rfl⟩
    rw [c412] at p77
    replace hF := hF.neg (by exact om_e4d065d5 p74)
    replace hP := hP.neg (by exact om_e4d065d5 p74)
    replace hF := hF.pos (by exact om_1b2eae89 p75)
    replace hP := hP.pos (by exact om_1b2eae89 p75)
    refine q_if_ne 9 dX7_readCheese_4 (by decide) (fun h413 => ?_) (fun h413 => ?_)
    · skip
      exfalso; exact om_3a97d4a5 p73 h413
    · skip
      refine q_iconst dX7_readCheese_7 (by decide) ?_
      intro v414 h415
      have eF := hF.eq
      have eP := hP.eq
      exact tr_zret hZ dX7_readCheese_8 rfl (ti_b01 (by exact om_d99fa9e4 h415) (by exact om_d3de7ec9 h415)) (by decide) (by decide) ⟨v414, rfl, rfl, rfl, rfl, rfl, hS55, hL0, (by exact om_3b50ecb9 h415), (fun al h1 => by obtain rfl := Option.some.inj (d24.symm.trans h1); exact ((FrK.rf (R := R0) (al := a23) (W := fun u => u = 35) (T := T)).st g50 (by decide +kernel))), (fun dr hd => (Option.some.inj (d24.symm.trans hd)) ▸ hO62), (Or.inr (⟨(by first | done | with_reducible assumption | omega), (by first | done | with_reducible assumption | exact om_c731b21c eF), (by (try rw [c410]); first | done | with_reducible assumption | exact om_4684038f p76 eF), (by (try rw [c412]); first | done | with_reducible assumption | exact om_86fa3162 p8 p77 eP), trivial⟩)), trivial⟩
def wik_X7_readCall : List Nat := [139, 320, 321, 322, 323, 450, 451, 452, 454, 455, 463, 464]
def wrk_X7_readCall : List Nat := []
def wlk_X7_readCall : List Nat := [453]
set_option maxHeartbeats 4000000 in
theorem fk_X7_readCall {l : Launch} {T : Nat → Nat} {cn : Nat} {K N : Nat → Nat} {I0 : cz_I} {R0 : cz_R} {L0 : cz_L} {d : Int} (hW0 : Wf T cn K N I0 R0 d) (gB : cz_B) (gs : Int) (gQ : Nat → Int) {a0 : Nat} (ta0 : T a0 = 7) (hT : ∀ t, R0 a0 0 = some t → Tx I0 t gB) (hN : NmC L0 R0 a0 gQ) (pre0 : (I0 a0 2).toInt = (tkN gB gs)) (pre1 : (I0 a0 4).toInt = (tkS gB gs)) (pre2 : (I0 a0 3).toInt = (tkK gB gs)) (pre3 : (AtW ((tkK gB gs)) ((L0 a0 5).toInt) ((tkW gB gs)))) (pre4 : (AtV ((tkK gB gs)) ((I0 a0 6).toInt) ((tkV gB gs)))) (pre5 : (I0 a0 1).toInt = (gB.2)) (pre6 : ∀ b1, R0 a0 10 = some b1 → (I0 b1 0).toInt = (gQ 0)) (pre7 : ∀ b1, R0 a0 10 = some b1 → (I0 b1 9).toInt = (gQ 4)) (pre8 : ∀ b1, R0 a0 10 = some b1 → (I0 b1 11).toInt = (gQ 5)) (pre9 : (gQ 5) ≤ 5) : ConE l mX7_readCall [.ref a0] cn K N I0 R0 L0 (ca_i (fun v cn' K' N' I' R' L' => cn = cn' ∧ K = K' ∧ N = N' ∧ R0 = R' ∧ St T cn K N d wik_X7_readCall wrk_X7_readCall I0 R0 I' R0 ∧ LgS T wlk_X7_readCall L0 L' ∧ (0 ≤ v.toInt ∧ v.toInt ≤ 1) ∧ (∀ al, R0 a0 10 = some al → FrK R0 al (fun u => u = 19 + (gQ 5).toNat) T I0 I') ∧ (∀ dr, R0 a0 10 = some dr → FrO 2 dr T I0 I') ∧ (((v.toInt = 1) ∧ ((I' a0 15).toInt = (I0 a0 15).toInt) ∧ ((caF gB gQ gs) = 0) ∧ (∀ b1, R0 a0 10 = some b1 → (I' b1 11).toInt = (gQ 5) + 1) ∧ ((I' a0 2).toInt = (tkN gB (tkN gB (tkN gB (tkN gB (tkN gB (tkN gB (tkN gB (tkN gB gs))))))))) ∧ ((I' a0 4).toInt = (tkS gB (tkN gB (tkN gB (tkN gB (tkN gB (tkN gB (tkN gB (tkN gB gs))))))))) ∧ ((I' a0 3).toInt = (tkK gB (tkN gB (tkN gB (tkN gB (tkN gB (tkN gB (tkN gB (tkN gB gs))))))))) ∧ ((AtW ((tkK gB (tkN gB (tkN gB (tkN gB (tkN gB (tkN gB (tkN gB (tkN gB gs))))))))) ((L' a0 5).toInt) ((tkW gB (tkN gB (tkN gB (tkN gB (tkN gB (tkN gB (tkN gB (tkN gB gs))))))))))) ∧ ((AtV ((tkK gB (tkN gB (tkN gB (tkN gB (tkN gB (tkN gB (tkN gB (tkN gB gs))))))))) ((I' a0 6).toInt) ((tkV gB (tkN gB (tkN gB (tkN gB (tkN gB (tkN gB (tkN gB (tkN gB gs))))))))))) ∧ (∀ al ob, R0 a0 10 = some al → Ob R0 al (19 + (gQ 5).toNat) = some ob → ∀ f, f < 4 → (I' ob f).toInt = caD gB gQ gs f) ∧ True) ∨ ((v.toInt = 0) ∧ ((caF gB gQ gs) ≠ 0) ∧ ((I' a0 15).toInt = (caF gB gQ gs)) ∧ ((I' a0 16).toInt = (caP gB gQ gs)) ∧ True)) ∧ True)) := by
  refine ConE.of (by decide +kernel) rfl (Nat.le_of_ble_eq_true rfl) rfl (fun X hX hZ hE => ?_)
  subst hX
  have hS0 : St T cn K N d wik_X7_readCall wrk_X7_readCall I0 R0 I0 R0 := St.rf0 hW0
  have hL0 : LgS T wlk_X7_readCall L0 L0 := LgS.rf0
  obtain ⟨v1, c2⟩ : ∃ v, I0 a0 2 = v := ⟨_, rfl⟩
  have b3 := iv7_2 hS0.1 ta0 c2
  have p4 := pre0
  rw [c2] at p4
  obtain ⟨v5, c6⟩ : ∃ v, I0 a0 4 = v := ⟨_, rfl⟩
  have b7 := iv7_4 hS0.1 ta0 c6
  have p8 := pre1
  rw [c6] at p8
  obtain ⟨v9, c10⟩ : ∃ v, I0 a0 3 = v := ⟨_, rfl⟩
  have b11 := iv7_3 hS0.1 ta0 c10
  have p12 := pre2
  rw [c10] at p12
  obtain ⟨y13, c14⟩ : ∃ v, L0 a0 5 = v := ⟨_, rfl⟩
  have p15 := pre3
  rw [c14] at p15
  obtain ⟨v16, c17⟩ : ∃ v, I0 a0 6 = v := ⟨_, rfl⟩
  have p18 := pre4
  rw [c17] at p18
  obtain ⟨v19, c20⟩ : ∃ v, I0 a0 1 = v := ⟨_, rfl⟩
  have b21 := iv7_1 hW0 ta0 c20
  have p22 := pre5
  rw [c20] at p22
  obtain ⟨a23, d24, ta23⟩ := rf7_10 hW0 ta0
  obtain ⟨v25, c26⟩ : ∃ v, I0 a23 0 = v := ⟨_, rfl⟩
  have b27 := iv2_0 hW0 ta23 c26
  have p28 := pre6 _ d24
  rw [c26] at p28
  obtain ⟨v29, c30⟩ : ∃ v, I0 a23 9 = v := ⟨_, rfl⟩
  have b31 := iv2_9 hW0 ta23 c30
  have p32 := pre7 _ d24
  rw [c30] at p32
  obtain ⟨v33, c34⟩ : ∃ v, I0 a23 11 = v := ⟨_, rfl⟩
  have b35 := iv2_11 hS0.1 ta23 c34
  have p36 := pre8 _ d24
  rw [c34] at p36
  have p37 := pre9
  obtain ⟨v38, c39⟩ : ∃ v, I0 a0 15 = v := ⟨_, rfl⟩
  have hO0 : FrO 2 a23 T I0 I0 := FrO.rf
  obtain ⟨a40, d41, ta40⟩ := rf2_12 hW0 ta23
  have hF := caF_ch gB gQ gs
  have hP := caP_ch gB gQ gs
  refine tr_aload_n dX7_readCall_0 rfl ?_
  refine q_callVi hE (M' := mX7_seesName) (as := []) dX7_readCall_1 lk7_279 inX7_seesName seX7_seesName myX7_seesName (by decide) ⟨by decide, by decide⟩ rfl (kR7 hS0.1 ta0) (Nat.le_of_ble_eq_true rfl) rfl rfl (by decide) (by decide) (fk_X7_seesName hS0.1 (gB) (gs) ta0 (by (try rw [c10]); first | done | with_reducible assumption | omega) (by (try rw [c14]); first | done | assumption)) ?_
  rintro v47 cn' K' N' I42 R43 L44 ⟨rfl, rfl, rfl, rfl, rfl, rfl, h48, dj49, -⟩
  rcases dj49 with ⟨p50, p51, p52, -⟩ | ⟨p53, p54, -⟩
  · skip
    replace hF := hF.neg (by exact om_e4d065d5 p51)
    replace hP := hP.neg (by exact om_e4d065d5 p51)
    refine q_if_ne 13 dX7_readCall_4 (by decide) (fun h55 => ?_) (fun h55 => ?_)
    · skip
      refine tr_aload_n dX7_readCall_13 rfl ?_
      have p56 := p15 (by exact om_ee8a1e2d p52)
      refine q_callVi hE (M' := mX7_namedTurner) (as := []) dX7_readCall_14 lk7_282 inX7_namedTurner seX7_namedTurner myX7_namedTurner (by decide) ⟨by decide, by decide⟩ rfl (kR7 hS0.1 ta0) (Nat.le_of_ble_eq_true rfl) rfl rfl (by decide) (by decide) (fk_X7_namedTurner hS0.1 ((tkW gB gs)) (gQ) ta0 hN (by (try rw [c14]); first | done | with_reducible assumption | omega) (fun q0 z0 => by obtain rfl := Option.some.inj ((d24).symm.trans z0); (try rw [c30]); first | done | with_reducible assumption | omega)) ?_
      rintro v62 cn' K' N' I57 R58 L59 ⟨rfl, rfl, rfl, rfl, rfl, rfl, h63, p64, -⟩
      refine tr_istore_n dX7_readCall_17 (by decide) (by decide) ?_
      refine tr_iload_n dX7_readCall_18 rfl ?_
      refine q_iconst dX7_readCall_19 (by decide) ?_
      intro v65 h66
      refine q_icmp_ne 29 dX7_readCall_20 (by decide) (fun h67 => ?_) (fun h67 => ?_)
      · skip
        replace hF := hF.neg (by exact om_81608096 p64 h66 h67)
        replace hP := hP.neg (by exact om_81608096 p64 h66 h67)
        refine tr_aload_n dX7_readCall_29 rfl ?_
        refine q_callVv hE (M' := mX7_step) (as := []) dX7_readCall_30 lk7_51 inX7_step seX7_step myX7_step (by decide) ⟨by decide, by decide⟩ rfl (kR7 hS0.1 ta0) (Nat.le_of_ble_eq_true rfl) rfl rfl (by decide) (by decide) (fk_X7_step hS0.1 (gB) ((tkN gB gs)) ta0 (TxA.kp hT hS0 ta0 rfl rfl rfl (by decide +kernel) (by decide +kernel)) (by (try rw [c2]); first | done | with_reducible assumption | omega) (by (try rw [c20]); first | done | with_reducible assumption | omega)) ?_
        rintro cn' K' N' I68 R69 L70 ⟨rfl, rfl, rfl, rfl, g71, gl72, p74, p75, p76, p77, p78, -⟩
        have hS79 := hS0.tr g71 (by decide +kernel) (by decide +kernel)
        have c80 : I68 a23 11 = v33 := (g71.cell ta23 (by decide +kernel)).trans c34
        have c81 : I68 a0 15 = v38 := (g71.cell ta0 (by decide +kernel)).trans c39
        have hO82 : FrO 2 a23 T I0 I68 := hO0.st g71 (by decide +kernel)
        have hL83 := hL0.tr gl72 (by decide +kernel)
        have hN84 : NmC L70 R0 a0 gQ := NmC.kp hN gl72 hS79.1 ta0 (by decide +kernel) (by decide +kernel)
        obtain ⟨v85, c86⟩ : ∃ v, I68 a0 2 = v := ⟨_, rfl⟩
        have b87 := iv7_2 hS79.1 ta0 c86
        rw [c86] at p74
        obtain ⟨v88, c89⟩ : ∃ v, I68 a0 4 = v := ⟨_, rfl⟩
        have b90 := iv7_4 hS79.1 ta0 c89
        rw [c89] at p75
        obtain ⟨v91, c92⟩ : ∃ v, I68 a0 3 = v := ⟨_, rfl⟩
        have b93 := iv7_3 hS79.1 ta0 c92
        rw [c92] at p76
        obtain ⟨y94, c95⟩ : ∃ v, L70 a0 5 = v := ⟨_, rfl⟩
        rw [c95] at p77
        obtain ⟨v96, c97⟩ : ∃ v, I68 a0 6 = v := ⟨_, rfl⟩
        rw [c97] at p78
        refine tr_aload_n dX7_readCall_33 rfl ?_
        refine tr_getR dX7_readCall_34 fl7_22 (kR7 hS79.1 ta0) d24 ?_
        refine tr_getR dX7_readCall_37 fl7_285 (kR2 hS79.1 ta23) d41 ?_
        refine tr_aload_n dX7_readCall_40 rfl ?_
        refine tr_getR dX7_readCall_41 fl7_22 (kR7 hS79.1 ta0) d24 ?_
        refine q_getI dX7_readCall_44 fl7_159 (kR2 hS79.1 ta23) c80 ?_
        obtain ⟨a98, d99, ta98⟩ := rf22 hS79.1 ta40 (j := v33.toNatClampNeg) (ti_lt (by exact om_f68eade3 pre9 b35.2 b35.1 p36) (by exact om_967dd5b3 pre9 b35.2 b35.1 p36))
        refine tr_aald dX7_readCall_47 (kR22 hS79.1 ta40) (by decide) (by decide) (ti_in (nR22 hS79.1 ta40) (by exact om_f68eade3 pre9 b35.2 b35.1 p36) (by exact om_967dd5b3 pre9 b35.2 b35.1 p36)) d99 ?_
        refine tr_astore_n dX7_readCall_48 (by decide) (by decide) ?_
        refine tr_aload_n dX7_readCall_49 rfl ?_
        refine tr_iload_n dX7_readCall_50 rfl ?_
        refine q_putI dX7_readCall_51 fl7_289 (kR5 hS79.1 ta98) (Or.inl rfl) hS79 ta98 (iokF rfl) rfl (by decide +kernel) ?_
        intro I100 hS101 e102 f103
        have c104 : I100 a23 11 = v33 := (f103 _ _ (fun q => absurd q.2 (by decide))).trans c80
        have c105 : I100 a0 15 = v38 := (f103 _ _ (fun q => absurd q.2 (by decide))).trans c81
        have c106 : I100 a0 2 = v85 := (f103 _ _ (fun q => absurd q.2 (by decide))).trans c86
        have c107 : I100 a0 4 = v88 := (f103 _ _ (fun q => absurd q.2 (by decide))).trans c89
        have c108 : I100 a0 3 = v91 := (f103 _ _ (fun q => absurd q.2 (by decide))).trans c92
        have c109 : I100 a0 6 = v96 := (f103 _ _ (fun q => absurd q.2 (by decide))).trans c97
        have hO110 : FrO 2 a23 T I0 I100 := hO82.put f103 ta98 (Or.inl (by decide))
        refine tr_aload_n dX7_readCall_54 rfl ?_
        refine tr_ldcwS dX7_readCall_55 ld7_293 ?_
        refine q_callVi hE (M' := mX7_takeWord) (as := [_]) dX7_readCall_58 lk7_126 inX7_takeWord seX7_takeWord myX7_takeWord (by decide) ⟨by decide, by decide⟩ rfl (kR7 hS101.1 ta0) (Nat.le_of_ble_eq_true rfl) rfl rfl (by decide) (by decide) (fk_X7_takeWord hS101.1 (gB) ((tkN gB gs)) ta0 (by decide) (TxA.kp hT hS101 ta0 rfl rfl rfl (by decide +kernel) (by decide +kernel)) (by (try rw [c106]); first | done | with_reducible assumption | omega) (by (try rw [c107]); first | done | with_reducible assumption | omega) (by (try rw [c108]); first | done | with_reducible assumption | omega) (by (try rw [c95]); first | done | assumption) (by (try rw [c109]); first | done | assumption) (by (try rw [((hS101.cell ta0 (by decide +kernel)).trans c20)]); first | done | with_reducible assumption | omega)) ?_
        rintro v116 cn' K' N' I111 R112 L113 ⟨rfl, rfl, rfl, rfl, g114, gl115, h117, dj118, -⟩
        (try rw [pk_2] at dj118)
        have hS119 := hS101.tr g114 (by decide +kernel) (by decide +kernel)
        have c120 : I111 a23 11 = v33 := (g114.cell ta23 (by decide +kernel)).trans c104
        have c121 : I111 a98 0 = v62 := (g114.cell ta98 (by decide +kernel)).trans e102
        have hO122 : FrO 2 a23 T I0 I111 := hO110.st g114 (by decide +kernel)
        have hL123 := hL83.tr gl115 (by decide +kernel)
        have hN124 : NmC L113 R0 a0 gQ := NmC.kp hN84 gl115 hS119.1 ta0 (by decide +kernel) (by decide +kernel)
        rcases dj118 with ⟨p125, p126, p127, p128, p129, p130, p131, p132, p133, -⟩ | ⟨p134, p135, p136, p137, -⟩
        · skip
          obtain ⟨v138, c139⟩ : ∃ v, I111 a0 15 = v := ⟨_, rfl⟩
          rw [c139] at p126
          rw [c105] at p126
          obtain ⟨v140, c141⟩ : ∃ v, I111 a0 2 = v := ⟨_, rfl⟩
          have b142 := iv7_2 hS119.1 ta0 c141
          rw [c141] at p129
          obtain ⟨v143, c144⟩ : ∃ v, I111 a0 4 = v := ⟨_, rfl⟩
          have b145 := iv7_4 hS119.1 ta0 c144
          rw [c144] at p130
          obtain ⟨v146, c147⟩ : ∃ v, I111 a0 3 = v := ⟨_, rfl⟩
          have b148 := iv7_3 hS119.1 ta0 c147
          rw [c147] at p131
          obtain ⟨y149, c150⟩ : ∃ v, L113 a0 5 = v := ⟨_, rfl⟩
          rw [c150] at p132
          obtain ⟨v151, c152⟩ : ∃ v, I111 a0 6 = v := ⟨_, rfl⟩
          rw [c152] at p133
          replace hF := hF.neg (by exact om_04eb041f p127 p128)
          replace hP := hP.neg (by exact om_04eb041f p127 p128)
          refine q_if_eq 81 dX7_readCall_61 (by decide) (fun h153 => ?_) (fun h153 => ?_)
          · skip
            exfalso; exact om_3624102b p125 h153
          · skip
            refine tr_aload_n dX7_readCall_64 rfl ?_
            refine q_iconst dX7_readCall_65 (by decide) ?_
            intro v154 h155
            refine tr_aload_n dX7_readCall_66 rfl ?_
            refine tr_getR dX7_readCall_67 fl7_22 (kR7 hS119.1 ta0) d24 ?_
            refine q_getI dX7_readCall_70 fl7_118 (kR2 hS119.1 ta23) ((hS119.cell ta23 (by decide +kernel)).trans c26) ?_
            refine q_iconst dX7_readCall_73 (by decide) ?_
            intro v156 h157
            refine q_isubE dX7_readCall_74 (by intro j1 j2 j3 j4; exact om_37812ee5 b27.2 b27.1 p28 h157) ?_
            intro v158 h159
            refine q_callVi hE (M' := mX7_takeWhole) (as := [_, _]) dX7_readCall_75 lk7_115 inX7_takeWhole seX7_takeWhole myX7_takeWhole (by decide) ⟨by decide, by decide⟩ rfl (kR7 hS119.1 ta0) (Nat.le_of_ble_eq_true rfl) rfl rfl (by decide) (by decide) (fk_X7_takeWhole hS119.1 (gB) ((tkN gB (tkN gB gs))) ta0 (by exact om_9ed8f7f4 h155) (by exact om_fc024398 b27.2 b27.1 p28 h157 h159) (TxA.kp hT hS119 ta0 rfl rfl rfl (by decide +kernel) (by decide +kernel)) (by (try rw [c141]); first | done | with_reducible assumption | omega) (by (try rw [c144]); first | done | with_reducible assumption | omega) (by (try rw [c147]); first | done | with_reducible assumption | omega) (by (try rw [c150]); first | done | assumption) (by (try rw [c152]); first | done | assumption) (by (try rw [((hS119.cell ta0 (by decide +kernel)).trans c20)]); first | done | with_reducible assumption | omega)) ?_
            rintro v165 cn' K' N' I160 R161 L162 ⟨rfl, rfl, rfl, rfl, g163, gl164, h166, dj167, -⟩
            have hS168 := hS119.tr g163 (by decide +kernel) (by decide +kernel)
            have c169 : I160 a23 11 = v33 := (g163.cell ta23 (by decide +kernel)).trans c120
            have c170 : I160 a98 0 = v62 := (g163.cell ta98 (by decide +kernel)).trans c121
            have hO171 : FrO 2 a23 T I0 I160 := hO122.st g163 (by decide +kernel)
            have hL172 := hL123.tr gl164 (by decide +kernel)
            have hN173 : NmC L162 R0 a0 gQ := NmC.kp hN124 gl164 hS168.1 ta0 (by decide +kernel) (by decide +kernel)
            rcases dj167 with ⟨p174, p175, p176, p177, p178, p179, p180, p181, p182, p183, p184, -⟩ | ⟨p185, p186, p187, p188, -⟩ | ⟨p189, p190, p191, p192, p193, -⟩
            · skip
              obtain ⟨v194, c195⟩ : ∃ v, I160 a0 15 = v := ⟨_, rfl⟩
              rw [c195] at p175
              rw [c139] at p175
              obtain ⟨v196, c197⟩ : ∃ v, I160 a0 7 = v := ⟨_, rfl⟩
              have b198 := iv7_7 hS168.1 ta0 c197
              rw [c197] at p179
              obtain ⟨v199, c200⟩ : ∃ v, I160 a0 2 = v := ⟨_, rfl⟩
              have b201 := iv7_2 hS168.1 ta0 c200
              rw [c200] at p180
              obtain ⟨v202, c203⟩ : ∃ v, I160 a0 4 = v := ⟨_, rfl⟩
              have b204 := iv7_4 hS168.1 ta0 c203
              rw [c203] at p181
              obtain ⟨v205, c206⟩ : ∃ v, I160 a0 3 = v := ⟨_, rfl⟩
              have b207 := iv7_3 hS168.1 ta0 c206
              rw [c206] at p182
              obtain ⟨y208, c209⟩ : ∃ v, L162 a0 5 = v := ⟨_, rfl⟩
              rw [c209] at p183
              obtain ⟨v210, c211⟩ : ∃ v, I160 a0 6 = v := ⟨_, rfl⟩
              rw [c211] at p184
              replace hF := hF.neg (by exact om_10ed11b5 p176)
              replace hP := hP.neg (by exact om_10ed11b5 p176)
              replace hF := hF.neg (by exact om_c8c41460 p28 h155 h157 h159 p177 p178 p179 b198.2)
              replace hP := hP.neg (by exact om_c8c41460 p28 h155 h157 h159 p177 p178 p179 b198.2)
              refine q_if_ne 83 dX7_readCall_78 (by decide) (fun h212 => ?_) (fun h212 => ?_)
              · skip
                refine tr_aload_n dX7_readCall_83 rfl ?_
                refine tr_aload_n dX7_readCall_84 rfl ?_
                refine q_getI dX7_readCall_85 fl7_109 (kR7 hS168.1 ta0) c197 ?_
                refine q_putI dX7_readCall_88 fl7_295 (kR5 hS168.1 ta98) (Or.inl rfl) hS168 ta98 (iokF rfl) rfl (by decide +kernel) ?_
                intro I213 hS214 e215 f216
                have c217 : I213 a23 11 = v33 := (f216 _ _ (fun q => absurd q.2 (by decide))).trans c169
                have c218 : I213 a98 0 = v62 := (f216 _ _ (fun q => absurd q.2 (by decide))).trans c170
                have c219 : I213 a0 15 = v194 := (f216 _ _ (fun q => absurd q.2 (by decide))).trans c195
                have c220 : I213 a0 7 = v196 := (f216 _ _ (fun q => absurd q.2 (by decide))).trans c197
                have c221 : I213 a0 2 = v199 := (f216 _ _ (fun q => absurd q.2 (by decide))).trans c200
                have c222 : I213 a0 4 = v202 := (f216 _ _ (fun q => absurd q.2 (by decide))).trans c203
                have c223 : I213 a0 3 = v205 := (f216 _ _ (fun q => absurd q.2 (by decide))).trans c206
                have c224 : I213 a0 6 = v210 := (f216 _ _ (fun q => absurd q.2 (by decide))).trans c211
                have hO225 : FrO 2 a23 T I0 I213 := hO171.put f216 ta98 (Or.inl (by decide))
                refine tr_aload_n dX7_readCall_91 rfl ?_
                refine tr_ldcwS dX7_readCall_92 ld7_297 ?_
                refine q_callVi hE (M' := mX7_takeWord) (as := [_]) dX7_readCall_95 lk7_126 inX7_takeWord seX7_takeWord myX7_takeWord (by decide) ⟨by decide, by decide⟩ rfl (kR7 hS214.1 ta0) (Nat.le_of_ble_eq_true rfl) rfl rfl (by decide) (by decide) (fk_X7_takeWord hS214.1 (gB) ((tkN gB (tkN gB (tkN gB gs)))) ta0 (by decide) (TxA.kp hT hS214 ta0 rfl rfl rfl (by decide +kernel) (by decide +kernel)) (by (try rw [c221]); first | done | with_reducible assumption | omega) (by (try rw [c222]); first | done | with_reducible assumption | omega) (by (try rw [c223]); first | done | with_reducible assumption | omega) (by (try rw [c209]); first | done | assumption) (by (try rw [c224]); first | done | assumption) (by (try rw [((hS214.cell ta0 (by decide +kernel)).trans c20)]); first | done | with_reducible assumption | omega)) ?_
                rintro v231 cn' K' N' I226 R227 L228 ⟨rfl, rfl, rfl, rfl, g229, gl230, h232, dj233, -⟩
                (try rw [pk_12] at dj233)
                have hS234 := hS214.tr g229 (by decide +kernel) (by decide +kernel)
                have c235 : I226 a23 11 = v33 := (g229.cell ta23 (by decide +kernel)).trans c217
                have c236 : I226 a98 0 = v62 := (g229.cell ta98 (by decide +kernel)).trans c218
                have c237 : I226 a0 7 = v196 := (g229.cell ta0 (by decide +kernel)).trans c220
                have c238 : I226 a98 1 = v196 := (g229.cell ta98 (by decide +kernel)).trans e215
                have hO239 : FrO 2 a23 T I0 I226 := hO225.st g229 (by decide +kernel)
                have hL240 := hL172.tr gl230 (by decide +kernel)
                have hN241 : NmC L228 R0 a0 gQ := NmC.kp hN173 gl230 hS234.1 ta0 (by decide +kernel) (by decide +kernel)
                rcases dj233 with ⟨p242, p243, p244, p245, p246, p247, p248, p249, p250, -⟩ | ⟨p251, p252, p253, p254, -⟩
                · skip
                  obtain ⟨v255, c256⟩ : ∃ v, I226 a0 15 = v := ⟨_, rfl⟩
                  rw [c256] at p243
                  rw [c219] at p243
                  obtain ⟨v257, c258⟩ : ∃ v, I226 a0 2 = v := ⟨_, rfl⟩
                  have b259 := iv7_2 hS234.1 ta0 c258
                  rw [c258] at p246
                  obtain ⟨v260, c261⟩ : ∃ v, I226 a0 4 = v := ⟨_, rfl⟩
                  have b262 := iv7_4 hS234.1 ta0 c261
                  rw [c261] at p247
                  obtain ⟨v263, c264⟩ : ∃ v, I226 a0 3 = v := ⟨_, rfl⟩
                  have b265 := iv7_3 hS234.1 ta0 c264
                  rw [c264] at p248
                  obtain ⟨y266, c267⟩ : ∃ v, L228 a0 5 = v := ⟨_, rfl⟩
                  rw [c267] at p249
                  obtain ⟨v268, c269⟩ : ∃ v, I226 a0 6 = v := ⟨_, rfl⟩
                  rw [c269] at p250
                  replace hF := hF.neg (by exact om_9e763d12 p244 p245)
                  replace hP := hP.neg (by exact om_9e763d12 p244 p245)
                  refine q_if_eq 111 dX7_readCall_98 (by decide) (fun h270 => ?_) (fun h270 => ?_)
                  · skip
                    exfalso; exact om_3624102b p242 h270
                  · skip
                    refine tr_aload_n dX7_readCall_101 rfl ?_
                    refine q_iconst dX7_readCall_102 (by decide) ?_
                    intro v271 h272
                    refine q_bipush dX7_readCall_103 (by decide +kernel) ?_
                    intro v273 h274
                    refine q_callVi hE (M' := mX7_takeWhole) (as := [_, _]) dX7_readCall_105 lk7_115 inX7_takeWhole seX7_takeWhole myX7_takeWhole (by decide) ⟨by decide, by decide⟩ rfl (kR7 hS234.1 ta0) (Nat.le_of_ble_eq_true rfl) rfl rfl (by decide) (by decide) (fk_X7_takeWhole hS234.1 (gB) ((tkN gB (tkN gB (tkN gB (tkN gB gs))))) ta0 (by exact om_07bb78b4 h272) (by exact om_8ae06965 h274) (TxA.kp hT hS234 ta0 rfl rfl rfl (by decide +kernel) (by decide +kernel)) (by (try rw [c258]); first | done | with_reducible assumption | omega) (by (try rw [c261]); first | done | with_reducible assumption | omega) (by (try rw [c264]); first | done | with_reducible assumption | omega) (by (try rw [c267]); first | done | assumption) (by (try rw [c269]); first | done | assumption) (by (try rw [((hS234.cell ta0 (by decide +kernel)).trans c20)]); first | done | with_reducible assumption | omega)) ?_
                    rintro v280 cn' K' N' I275 R276 L277 ⟨rfl, rfl, rfl, rfl, g278, gl279, h281, dj282, -⟩
                    have hS283 := hS234.tr g278 (by decide +kernel) (by decide +kernel)
                    have c284 : I275 a23 11 = v33 := (g278.cell ta23 (by decide +kernel)).trans c235
                    have c285 : I275 a98 0 = v62 := (g278.cell ta98 (by decide +kernel)).trans c236
                    have c286 : I275 a98 1 = v196 := (g278.cell ta98 (by decide +kernel)).trans c238
                    have hO287 : FrO 2 a23 T I0 I275 := hO239.st g278 (by decide +kernel)
                    have hL288 := hL240.tr gl279 (by decide +kernel)
                    have hN289 : NmC L277 R0 a0 gQ := NmC.kp hN241 gl279 hS283.1 ta0 (by decide +kernel) (by decide +kernel)
                    rcases dj282 with ⟨p290, p291, p292, p293, p294, p295, p296, p297, p298, p299, p300, -⟩ | ⟨p301, p302, p303, p304, -⟩ | ⟨p305, p306, p307, p308, p309, -⟩
                    · skip
                      obtain ⟨v310, c311⟩ : ∃ v, I275 a0 15 = v := ⟨_, rfl⟩
                      rw [c311] at p291
                      rw [c256] at p291
                      obtain ⟨v312, c313⟩ : ∃ v, I275 a0 7 = v := ⟨_, rfl⟩
                      have b314 := iv7_7 hS283.1 ta0 c313
                      rw [c313] at p295
                      obtain ⟨v315, c316⟩ : ∃ v, I275 a0 2 = v := ⟨_, rfl⟩
                      have b317 := iv7_2 hS283.1 ta0 c316
                      rw [c316] at p296
                      obtain ⟨v318, c319⟩ : ∃ v, I275 a0 4 = v := ⟨_, rfl⟩
                      have b320 := iv7_4 hS283.1 ta0 c319
                      rw [c319] at p297
                      obtain ⟨v321, c322⟩ : ∃ v, I275 a0 3 = v := ⟨_, rfl⟩
                      have b323 := iv7_3 hS283.1 ta0 c322
                      rw [c322] at p298
                      obtain ⟨y324, c325⟩ : ∃ v, L277 a0 5 = v := ⟨_, rfl⟩
                      rw [c325] at p299
                      obtain ⟨v326, c327⟩ : ∃ v, I275 a0 6 = v := ⟨_, rfl⟩
                      rw [c327] at p300
                      replace hF := hF.neg (by exact om_10ed11b5 p292)
                      replace hP := hP.neg (by exact om_10ed11b5 p292)
                      replace hF := hF.neg (by exact om_c162e743 h272 h274 p293 p294 p295)
                      replace hP := hP.neg (by exact om_c162e743 h272 h274 p293 p294 p295)
                      refine q_if_ne 113 dX7_readCall_108 (by decide) (fun h328 => ?_) (fun h328 => ?_)
                      · skip
                        refine tr_aload_n dX7_readCall_113 rfl ?_
                        refine tr_aload_n dX7_readCall_114 rfl ?_
                        refine q_getI dX7_readCall_115 fl7_109 (kR7 hS283.1 ta0) c313 ?_
                        refine q_putI dX7_readCall_118 fl7_299 (kR5 hS283.1 ta98) (Or.inl rfl) hS283 ta98 (iokF rfl) rfl (by decide +kernel) ?_
                        intro I329 hS330 e331 f332
                        have c333 : I329 a23 11 = v33 := (f332 _ _ (fun q => absurd q.2 (by decide))).trans c284
                        have c334 : I329 a98 0 = v62 := (f332 _ _ (fun q => absurd q.2 (by decide))).trans c285
                        have c335 : I329 a98 1 = v196 := (f332 _ _ (fun q => absurd q.2 (by decide))).trans c286
                        have c336 : I329 a0 15 = v310 := (f332 _ _ (fun q => absurd q.2 (by decide))).trans c311
                        have c337 : I329 a0 7 = v312 := (f332 _ _ (fun q => absurd q.2 (by decide))).trans c313
                        have c338 : I329 a0 2 = v315 := (f332 _ _ (fun q => by have z := ta0; rw [q.1, ta98] at z; exact absurd z (by decide))).trans c316
                        have c339 : I329 a0 4 = v318 := (f332 _ _ (fun q => absurd q.2 (by decide))).trans c319
                        have c340 : I329 a0 3 = v321 := (f332 _ _ (fun q => absurd q.2 (by decide))).trans c322
                        have c341 : I329 a0 6 = v326 := (f332 _ _ (fun q => absurd q.2 (by decide))).trans c327
                        have hO342 : FrO 2 a23 T I0 I329 := hO287.put f332 ta98 (Or.inl (by decide))
                        refine tr_aload_n dX7_readCall_121 rfl ?_
                        refine tr_ldcwS dX7_readCall_122 ld7_302 ?_
                        refine q_callVi hE (M' := mX7_takeWord) (as := [_]) dX7_readCall_125 lk7_126 inX7_takeWord seX7_takeWord myX7_takeWord (by decide) ⟨by decide, by decide⟩ rfl (kR7 hS330.1 ta0) (Nat.le_of_ble_eq_true rfl) rfl rfl (by decide) (by decide) (fk_X7_takeWord hS330.1 (gB) ((tkN gB (tkN gB (tkN gB (tkN gB (tkN gB gs)))))) ta0 (by decide) (TxA.kp hT hS330 ta0 rfl rfl rfl (by decide +kernel) (by decide +kernel)) (by (try rw [c338]); first | done | with_reducible assumption | omega) (by (try rw [c339]); first | done | with_reducible assumption | omega) (by (try rw [c340]); first | done | with_reducible assumption | omega) (by (try rw [c325]); first | done | assumption) (by (try rw [c341]); first | done | assumption) (by (try rw [((hS330.cell ta0 (by decide +kernel)).trans c20)]); first | done | with_reducible assumption | omega)) ?_
                        rintro v348 cn' K' N' I343 R344 L345 ⟨rfl, rfl, rfl, rfl, g346, gl347, h349, dj350, -⟩
                        (try rw [pk_8] at dj350)
                        have hS351 := hS330.tr g346 (by decide +kernel) (by decide +kernel)
                        have c352 : I343 a23 11 = v33 := (g346.cell ta23 (by decide +kernel)).trans c333
                        have c353 : I343 a98 0 = v62 := (g346.cell ta98 (by decide +kernel)).trans c334
                        have c354 : I343 a98 1 = v196 := (g346.cell ta98 (by decide +kernel)).trans c335
                        have c355 : I343 a0 7 = v312 := (g346.cell ta0 (by decide +kernel)).trans c337
                        have c356 : I343 a98 2 = v312 := (g346.cell ta98 (by decide +kernel)).trans e331
                        have hO357 : FrO 2 a23 T I0 I343 := hO342.st g346 (by decide +kernel)
                        have hL358 := hL288.tr gl347 (by decide +kernel)
                        have hN359 : NmC L345 R0 a0 gQ := NmC.kp hN289 gl347 hS351.1 ta0 (by decide +kernel) (by decide +kernel)
                        rcases dj350 with ⟨p360, p361, p362, p363, p364, p365, p366, p367, p368, -⟩ | ⟨p369, p370, p371, p372, -⟩
                        · skip
                          obtain ⟨v373, c374⟩ : ∃ v, I343 a0 15 = v := ⟨_, rfl⟩
                          rw [c374] at p361
                          rw [c336] at p361
                          obtain ⟨v375, c376⟩ : ∃ v, I343 a0 2 = v := ⟨_, rfl⟩
                          have b377 := iv7_2 hS351.1 ta0 c376
                          rw [c376] at p364
                          obtain ⟨v378, c379⟩ : ∃ v, I343 a0 4 = v := ⟨_, rfl⟩
                          have b380 := iv7_4 hS351.1 ta0 c379
                          rw [c379] at p365
                          obtain ⟨v381, c382⟩ : ∃ v, I343 a0 3 = v := ⟨_, rfl⟩
                          have b383 := iv7_3 hS351.1 ta0 c382
                          rw [c382] at p366
                          obtain ⟨y384, c385⟩ : ∃ v, L345 a0 5 = v := ⟨_, rfl⟩
                          rw [c385] at p367
                          obtain ⟨v386, c387⟩ : ∃ v, I343 a0 6 = v := ⟨_, rfl⟩
                          rw [c387] at p368
                          replace hF := hF.neg (by exact om_95feeb19 p362 p363)
                          replace hP := hP.neg (by exact om_95feeb19 p362 p363)
                          refine q_if_eq 141 dX7_readCall_128 (by decide) (fun h388 => ?_) (fun h388 => ?_)
                          · skip
                            exfalso; exact om_3624102b p360 h388
                          · skip
                            refine tr_aload_n dX7_readCall_131 rfl ?_
                            refine q_iconst dX7_readCall_132 (by decide) ?_
                            intro v389 h390
                            refine q_bipush dX7_readCall_133 (by decide +kernel) ?_
                            intro v391 h392
                            refine q_callVi hE (M' := mX7_takeWhole) (as := [_, _]) dX7_readCall_135 lk7_115 inX7_takeWhole seX7_takeWhole myX7_takeWhole (by decide) ⟨by decide, by decide⟩ rfl (kR7 hS351.1 ta0) (Nat.le_of_ble_eq_true rfl) rfl rfl (by decide) (by decide) (fk_X7_takeWhole hS351.1 (gB) ((tkN gB (tkN gB (tkN gB (tkN gB (tkN gB (tkN gB gs))))))) ta0 (by exact om_9ed8f7f4 h390) (by exact om_ebb6199b h392) (TxA.kp hT hS351 ta0 rfl rfl rfl (by decide +kernel) (by decide +kernel)) (by (try rw [c376]); first | done | with_reducible assumption | omega) (by (try rw [c379]); first | done | with_reducible assumption | omega) (by (try rw [c382]); first | done | with_reducible assumption | omega) (by (try rw [c385]); first | done | assumption) (by (try rw [c387]); first | done | assumption) (by (try rw [((hS351.cell ta0 (by decide +kernel)).trans c20)]); first | done | with_reducible assumption | omega)) ?_
                            rintro v398 cn' K' N' I393 R394 L395 ⟨rfl, rfl, rfl, rfl, g396, gl397, h399, dj400, -⟩
                            have hS401 := hS351.tr g396 (by decide +kernel) (by decide +kernel)
                            have c402 : I393 a23 11 = v33 := (g396.cell ta23 (by decide +kernel)).trans c352
                            have c403 : I393 a98 0 = v62 := (g396.cell ta98 (by decide +kernel)).trans c353
                            have c404 : I393 a98 1 = v196 := (g396.cell ta98 (by decide +kernel)).trans c354
                            have c405 : I393 a98 2 = v312 := (g396.cell ta98 (by decide +kernel)).trans c356
                            have hO406 : FrO 2 a23 T I0 I393 := hO357.st g396 (by decide +kernel)
                            have hL407 := hL358.tr gl397 (by decide +kernel)
                            have hN408 : NmC L395 R0 a0 gQ := NmC.kp hN359 gl397 hS401.1 ta0 (by decide +kernel) (by decide +kernel)
                            rcases dj400 with ⟨p409, p410, p411, p412, p413, p414, p415, p416, p417, p418, p419, -⟩ | ⟨p420, p421, p422, p423, -⟩ | ⟨p424, p425, p426, p427, p428, -⟩
                            · skip
                              obtain ⟨v429, c430⟩ : ∃ v, I393 a0 15 = v := ⟨_, rfl⟩
                              rw [c430] at p410
                              rw [c374] at p410
                              obtain ⟨v431, c432⟩ : ∃ v, I393 a0 7 = v := ⟨_, rfl⟩
                              have b433 := iv7_7 hS401.1 ta0 c432
                              rw [c432] at p414
                              obtain ⟨v434, c435⟩ : ∃ v, I393 a0 2 = v := ⟨_, rfl⟩
                              have b436 := iv7_2 hS401.1 ta0 c435
                              rw [c435] at p415
                              obtain ⟨v437, c438⟩ : ∃ v, I393 a0 4 = v := ⟨_, rfl⟩
                              have b439 := iv7_4 hS401.1 ta0 c438
                              rw [c438] at p416
                              obtain ⟨v440, c441⟩ : ∃ v, I393 a0 3 = v := ⟨_, rfl⟩
                              have b442 := iv7_3 hS401.1 ta0 c441
                              rw [c441] at p417
                              obtain ⟨y443, c444⟩ : ∃ v, L395 a0 5 = v := ⟨_, rfl⟩
                              rw [c444] at p418
                              obtain ⟨v445, c446⟩ : ∃ v, I393 a0 6 = v := ⟨_, rfl⟩
                              rw [c446] at p419
                              replace hF := hF.neg (by exact om_10ed11b5 p411)
                              replace hP := hP.neg (by exact om_10ed11b5 p411)
                              replace hF := hF.neg (by exact om_fe8ced5b h390 h392 p412 p413 p414)
                              replace hP := hP.neg (by exact om_fe8ced5b h390 h392 p412 p413 p414)
                              refine q_if_ne 143 dX7_readCall_138 (by decide) (fun h447 => ?_) (fun h447 => ?_)
                              · skip
                                refine tr_aload_n dX7_readCall_143 rfl ?_
                                refine tr_aload_n dX7_readCall_144 rfl ?_
                                refine q_getI dX7_readCall_145 fl7_109 (kR7 hS401.1 ta0) c432 ?_
                                refine q_putI dX7_readCall_148 fl7_304 (kR5 hS401.1 ta98) (Or.inl rfl) hS401 ta98 (iokF rfl) rfl (by decide +kernel) ?_
                                intro I448 hS449 e450 f451
                                have c452 : I448 a23 11 = v33 := (f451 _ _ (fun q => absurd q.2 (by decide))).trans c402
                                have c453 : I448 a98 0 = v62 := (f451 _ _ (fun q => absurd q.2 (by decide))).trans c403
                                have c454 : I448 a98 1 = v196 := (f451 _ _ (fun q => absurd q.2 (by decide))).trans c404
                                have c455 : I448 a98 2 = v312 := (f451 _ _ (fun q => absurd q.2 (by decide))).trans c405
                                have c456 : I448 a0 15 = v429 := (f451 _ _ (fun q => absurd q.2 (by decide))).trans c430
                                have c457 : I448 a0 7 = v431 := (f451 _ _ (fun q => absurd q.2 (by decide))).trans c432
                                have c458 : I448 a0 2 = v434 := (f451 _ _ (fun q => absurd q.2 (by decide))).trans c435
                                have c459 : I448 a0 4 = v437 := (f451 _ _ (fun q => absurd q.2 (by decide))).trans c438
                                have c460 : I448 a0 3 = v440 := (f451 _ _ (fun q => by have z := ta0; rw [q.1, ta98] at z; exact absurd z (by decide))).trans c441
                                have c461 : I448 a0 6 = v445 := (f451 _ _ (fun q => absurd q.2 (by decide))).trans c446
                                have hO462 : FrO 2 a23 T I0 I448 := hO406.put f451 ta98 (Or.inl (by decide))
                                refine tr_aload_n dX7_readCall_151 rfl ?_
                                refine tr_getR dX7_readCall_152 fl7_22 (kR7 hS449.1 ta0) d24 ?_
                                refine tr_dup dX7_readCall_155 rfl ?_
                                refine q_getI dX7_readCall_156 fl7_159 (kR2 hS449.1 ta23) c452 ?_
                                refine q_iconst dX7_readCall_159 (by decide) ?_
                                intro v463 h464
                                refine q_iaddE dX7_readCall_160 (by intro j1 j2 j3 j4; exact om_fc126a3e pre9 b35.2 b35.1 p36 h464) ?_
                                intro v465 h466
                                refine q_putI dX7_readCall_161 fl7_159 (kR2 hS449.1 ta23) (Or.inl rfl) hS449 ta23 (by show (0 : Int) ≤ v465.toInt ∧ v465.toInt ≤ (6 : Int); exact om_57d00769 pre9 b35.2 b35.1 p36 h464 h466) rfl (by decide +kernel) ?_
                                intro I467 hS468 e469 f470
                                have c471 : I467 a98 0 = v62 := (f470 _ _ (fun q => absurd q.2 (by decide))).trans c453
                                have c472 : I467 a98 1 = v196 := (f470 _ _ (fun q => absurd q.2 (by decide))).trans c454
                                have c473 : I467 a98 2 = v312 := (f470 _ _ (fun q => absurd q.2 (by decide))).trans c455
                                have c474 : I467 a0 15 = v429 := (f470 _ _ (fun q => absurd q.2 (by decide))).trans c456
                                have c475 : I467 a0 7 = v431 := (f470 _ _ (fun q => absurd q.2 (by decide))).trans c457
                                have c476 : I467 a0 2 = v434 := (f470 _ _ (fun q => absurd q.2 (by decide))).trans c458
                                have c477 : I467 a0 4 = v437 := (f470 _ _ (fun q => absurd q.2 (by decide))).trans c459
                                have c478 : I467 a0 3 = v440 := (f470 _ _ (fun q => absurd q.2 (by decide))).trans c460
                                have c479 : I467 a0 6 = v445 := (f470 _ _ (fun q => absurd q.2 (by decide))).trans c461
                                have c480 : I467 a98 3 = v431 := (f470 _ _ (fun q => absurd q.2 (by decide))).trans e450
                                have hO481 : FrO 2 a23 T I0 I467 := hO462.put f470 ta23 (Or.inr rfl)
                                refine q_iconst dX7_readCall_164 (by decide) ?_
                                intro v482 h483
                                have eF := hF.eq
                                have eP := hP.eq
                                obtain ⟨v484, c485⟩ : ∃ v, I467 a0 16 = v := ⟨_, rfl⟩
                                exact tr_zret hZ dX7_readCall_165 rfl (ti_b01 (by exact om_f9079521 h483) (by exact om_e6632817 h483)) (by decide) (by decide) ⟨v482, rfl, rfl, rfl, rfl, rfl, hS468, hL407, (by exact om_d753bc65 h483), (fun al h1 => by obtain rfl := Option.some.inj (d24.symm.trans h1); exact (((((((((((((FrK.rf (R := R0) (al := a23) (W := fun u => u = 19 + (gQ 5).toNat) (T := T)).st g71 (by decide +kernel)).pu f103 (by exact om_27c2e3a8 pre9 b35.2 b35.1 p36 h464 h466) rfl (ObC d41 (by exact om_076902ad pre9 b35.2 b35.1 p36 h464 h466) (by have z := d99; rw [show v33.toNatClampNeg = (gQ 5).toNat from congrArg Int.toNat (by exact om_acd7a85a p36)] at z; exact z))).st g114 (by decide +kernel)).st g163 (by decide +kernel)).pu f216 (by exact om_27c2e3a8 pre9 b35.2 b35.1 p36 h464 h466) rfl (ObC d41 (by exact om_076902ad pre9 b35.2 b35.1 p36 h464 h466) (by have z := d99; rw [show v33.toNatClampNeg = (gQ 5).toNat from congrArg Int.toNat (by exact om_acd7a85a p36)] at z; exact z))).st g229 (by decide +kernel)).st g278 (by decide +kernel)).pu f332 (by exact om_27c2e3a8 pre9 b35.2 b35.1 p36 h464 h466) rfl (ObC d41 (by exact om_076902ad pre9 b35.2 b35.1 p36 h464 h466) (by have z := d99; rw [show v33.toNatClampNeg = (gQ 5).toNat from congrArg Int.toNat (by exact om_acd7a85a p36)] at z; exact z))).st g346 (by decide +kernel)).st g396 (by decide +kernel)).pu f451 (by exact om_27c2e3a8 pre9 b35.2 b35.1 p36 h464 h466) rfl (ObC d41 (by exact om_076902ad pre9 b35.2 b35.1 p36 h464 h466) (by have z := d99; rw [show v33.toNatClampNeg = (gQ 5).toNat from congrArg Int.toNat (by exact om_acd7a85a p36)] at z; exact z))).put f470 ta23 (by decide))), (fun dr hd => (Option.some.inj (d24.symm.trans hd)) ▸ hO481), (Or.inl ⟨(by first | done | with_reducible assumption | omega), (by (try rw [c474]); (try rw [c39]); first | done | with_reducible assumption | exact om_d526aa71 p126 p175 p243 p291 p361 p410), (by first | done | with_reducible assumption | omega), (fun q0 z0 => by obtain rfl := Option.some.inj ((d24).symm.trans z0); (try rw [e469]); first | done | with_reducible assumption | exact om_58c7f992 p36 h464 h466), (by (try rw [c476]); first | done | with_reducible assumption | omega), (by (try rw [c477]); first | done | with_reducible assumption | omega), (by (try rw [c478]); first | done | with_reducible assumption | omega), (by (try rw [c444]); first | done | assumption), (by (try rw [c479]); first | done | assumption), (fun al ob h1 h2 => by obtain rfl := Option.some.inj (d24.symm.trans h1); obtain rfl := Option.some.inj ((ObC d41 (by exact om_076902ad pre9 b35.2 b35.1 p36 h464 h466) (by have z := d99; rw [show v33.toNatClampNeg = (gQ 5).toNat from congrArg Int.toNat (by exact om_acd7a85a p36)] at z; exact z)).symm.trans h2); exact fun f hf => match f, hf with | 0, _ => (by rw [c471]; exact om_ee939805 p64) | 1, _ => (by rw [c472]; exact om_942f3dda p179) | 2, _ => (by rw [c473]; exact om_67ede83e p295) | 3, _ => (by rw [c480]; exact om_066e64e2 p414) | f + 4, h => absurd h (by exact om_551ec4b1 h)), trivial⟩), trivial⟩
                              · skip
                                exfalso; exact om_3624102b p409 h447
                            · skip
                              obtain ⟨v486, c487⟩ : ∃ v, I393 a0 15 = v := ⟨_, rfl⟩
                              rw [c487] at p422
                              obtain ⟨v488, c489⟩ : ∃ v, I393 a0 16 = v := ⟨_, rfl⟩
                              rw [c489] at p423
                              replace hF := hF.pos (by exact om_73cc8e29 p421)
                              replace hP := hP.pos (by exact om_73cc8e29 p421)
                              refine q_if_ne 143 dX7_readCall_138 (by decide) (fun h490 => ?_) (fun h490 => ?_)
                              · skip
                                exfalso; exact om_3a97d4a5 p420 h490
                              · skip
                                refine q_iconst dX7_readCall_141 (by decide) ?_
                                intro v491 h492
                                have eF := hF.eq
                                have eP := hP.eq
                                obtain ⟨v493, c494⟩ : ∃ v, I393 a0 2 = v := ⟨_, rfl⟩
                                have b495 := iv7_2 hS401.1 ta0 c494
                                obtain ⟨v496, c497⟩ : ∃ v, I393 a0 4 = v := ⟨_, rfl⟩
                                have b498 := iv7_4 hS401.1 ta0 c497
                                obtain ⟨v499, c500⟩ : ∃ v, I393 a0 3 = v := ⟨_, rfl⟩
                                have b501 := iv7_3 hS401.1 ta0 c500
                                obtain ⟨y502, c503⟩ : ∃ v, L395 a0 5 = v := ⟨_, rfl⟩
                                obtain ⟨v504, c505⟩ : ∃ v, I393 a0 6 = v := ⟨_, rfl⟩
                                exact tr_zret hZ dX7_readCall_142 rfl (ti_b01 (by exact om_d99fa9e4 h492) (by exact om_d3de7ec9 h492)) (by decide) (by decide) ⟨v491, rfl, rfl, rfl, rfl, rfl, hS401, hL407, (by exact om_3b50ecb9 h492), (fun al h1 => by obtain rfl := Option.some.inj (d24.symm.trans h1); exact (((((((((((FrK.rf (R := R0) (al := a23) (W := fun u => u = 19 + (gQ 5).toNat) (T := T)).st g71 (by decide +kernel)).pu f103 (by exact om_5553976f pre9 b35.2 b35.1 p36) rfl (ObC d41 (by exact om_1c45a86e pre9 b35.2 b35.1 p36) (by have z := d99; rw [show v33.toNatClampNeg = (gQ 5).toNat from congrArg Int.toNat (by exact om_acd7a85a p36)] at z; exact z))).st g114 (by decide +kernel)).st g163 (by decide +kernel)).pu f216 (by exact om_5553976f pre9 b35.2 b35.1 p36) rfl (ObC d41 (by exact om_1c45a86e pre9 b35.2 b35.1 p36) (by have z := d99; rw [show v33.toNatClampNeg = (gQ 5).toNat from congrArg Int.toNat (by exact om_acd7a85a p36)] at z; exact z))).st g229 (by decide +kernel)).st g278 (by decide +kernel)).pu f332 (by exact om_5553976f pre9 b35.2 b35.1 p36) rfl (ObC d41 (by exact om_1c45a86e pre9 b35.2 b35.1 p36) (by have z := d99; rw [show v33.toNatClampNeg = (gQ 5).toNat from congrArg Int.toNat (by exact om_acd7a85a p36)] at z; exact z))).st g346 (by decide +kernel)).st g396 (by decide +kernel))), (fun dr hd => (Option.some.inj (d24.symm.trans hd)) ▸ hO406), (Or.inr (⟨(by first | done | with_reducible assumption | omega), (by first | done | with_reducible assumption | exact om_7fac24c5 eF), (by (try rw [c487]); first | done | with_reducible assumption | exact om_3345b898 p422 eF), (by (try rw [c489]); first | done | with_reducible assumption | exact om_2757374c p423 eP), trivial⟩)), trivial⟩
                            · skip
                              obtain ⟨v506, c507⟩ : ∃ v, I393 a0 15 = v := ⟨_, rfl⟩
                              rw [c507] at p427
                              obtain ⟨v508, c509⟩ : ∃ v, I393 a0 16 = v := ⟨_, rfl⟩
                              rw [c509] at p428
                              replace hF := hF.neg (by exact om_10ed11b5 p425)
                              replace hP := hP.neg (by exact om_10ed11b5 p425)
                              replace hF := hF.pos (by exact om_20030929 h390 h392 p426)
                              replace hP := hP.pos (by exact om_20030929 h390 h392 p426)
                              refine q_if_ne 143 dX7_readCall_138 (by decide) (fun h510 => ?_) (fun h510 => ?_)
                              · skip
                                exfalso; exact om_3a97d4a5 p424 h510
                              · skip
                                refine q_iconst dX7_readCall_141 (by decide) ?_
                                intro v511 h512
                                have eF := hF.eq
                                have eP := hP.eq
                                obtain ⟨v513, c514⟩ : ∃ v, I393 a0 2 = v := ⟨_, rfl⟩
                                have b515 := iv7_2 hS401.1 ta0 c514
                                obtain ⟨v516, c517⟩ : ∃ v, I393 a0 4 = v := ⟨_, rfl⟩
                                have b518 := iv7_4 hS401.1 ta0 c517
                                obtain ⟨v519, c520⟩ : ∃ v, I393 a0 3 = v := ⟨_, rfl⟩
                                have b521 := iv7_3 hS401.1 ta0 c520
                                obtain ⟨y522, c523⟩ : ∃ v, L395 a0 5 = v := ⟨_, rfl⟩
                                obtain ⟨v524, c525⟩ : ∃ v, I393 a0 6 = v := ⟨_, rfl⟩
                                exact tr_zret hZ dX7_readCall_142 rfl (ti_b01 (by exact om_d99fa9e4 h512) (by exact om_d3de7ec9 h512)) (by decide) (by decide) ⟨v511, rfl, rfl, rfl, rfl, rfl, hS401, hL407, (by exact om_3b50ecb9 h512), (fun al h1 => by obtain rfl := Option.some.inj (d24.symm.trans h1); exact (((((((((((FrK.rf (R := R0) (al := a23) (W := fun u => u = 19 + (gQ 5).toNat) (T := T)).st g71 (by decide +kernel)).pu f103 (by exact om_5553976f pre9 b35.2 b35.1 p36) rfl (ObC d41 (by exact om_1c45a86e pre9 b35.2 b35.1 p36) (by have z := d99; rw [show v33.toNatClampNeg = (gQ 5).toNat from congrArg Int.toNat (by exact om_acd7a85a p36)] at z; exact z))).st g114 (by decide +kernel)).st g163 (by decide +kernel)).pu f216 (by exact om_5553976f pre9 b35.2 b35.1 p36) rfl (ObC d41 (by exact om_1c45a86e pre9 b35.2 b35.1 p36) (by have z := d99; rw [show v33.toNatClampNeg = (gQ 5).toNat from congrArg Int.toNat (by exact om_acd7a85a p36)] at z; exact z))).st g229 (by decide +kernel)).st g278 (by decide +kernel)).pu f332 (by exact om_5553976f pre9 b35.2 b35.1 p36) rfl (ObC d41 (by exact om_1c45a86e pre9 b35.2 b35.1 p36) (by have z := d99; rw [show v33.toNatClampNeg = (gQ 5).toNat from congrArg Int.toNat (by exact om_acd7a85a p36)] at z; exact z))).st g346 (by decide +kernel)).st g396 (by decide +kernel))), (fun dr hd => (Option.some.inj (d24.symm.trans hd)) ▸ hO406), (Or.inr (⟨(by first | done | with_reducible assumption | omega), (by first | done | with_reducible assumption | exact om_7b84bd42 eF), (by (try rw [c507]); first | done | with_reducible assumption | exact om_46d5da87 p427 eF), (by (try rw [c509]); first | done | with_reducible assumption | exact om_2757374c p428 eP), trivial⟩)), trivial⟩
                        · skip
                          obtain ⟨v526, c527⟩ : ∃ v, I343 a0 15 = v := ⟨_, rfl⟩
                          rw [c527] at p371
                          obtain ⟨v528, c529⟩ : ∃ v, I343 a0 16 = v := ⟨_, rfl⟩
                          rw [c529] at p372
                          replace hF := hF.pos (by exact om_0cd8357c p370)
                          replace hP := hP.pos (by exact om_0cd8357c p370)
                          refine q_if_eq 141 dX7_readCall_128 (by decide) (fun h530 => ?_) (fun h530 => ?_)
                          · skip
                            refine q_iconst dX7_readCall_141 (by decide) ?_
                            intro v531 h532
                            have eF := hF.eq
                            have eP := hP.eq
                            obtain ⟨v533, c534⟩ : ∃ v, I343 a0 2 = v := ⟨_, rfl⟩
                            have b535 := iv7_2 hS351.1 ta0 c534
                            obtain ⟨v536, c537⟩ : ∃ v, I343 a0 4 = v := ⟨_, rfl⟩
                            have b538 := iv7_4 hS351.1 ta0 c537
                            obtain ⟨v539, c540⟩ : ∃ v, I343 a0 3 = v := ⟨_, rfl⟩
                            have b541 := iv7_3 hS351.1 ta0 c540
                            obtain ⟨y542, c543⟩ : ∃ v, L345 a0 5 = v := ⟨_, rfl⟩
                            obtain ⟨v544, c545⟩ : ∃ v, I343 a0 6 = v := ⟨_, rfl⟩
                            exact tr_zret hZ dX7_readCall_142 rfl (ti_b01 (by exact om_d99fa9e4 h532) (by exact om_d3de7ec9 h532)) (by decide) (by decide) ⟨v531, rfl, rfl, rfl, rfl, rfl, hS351, hL358, (by exact om_3b50ecb9 h532), (fun al h1 => by obtain rfl := Option.some.inj (d24.symm.trans h1); exact ((((((((((FrK.rf (R := R0) (al := a23) (W := fun u => u = 19 + (gQ 5).toNat) (T := T)).st g71 (by decide +kernel)).pu f103 (by exact om_5553976f pre9 b35.2 b35.1 p36) rfl (ObC d41 (by exact om_1c45a86e pre9 b35.2 b35.1 p36) (by have z := d99; rw [show v33.toNatClampNeg = (gQ 5).toNat from congrArg Int.toNat (by exact om_acd7a85a p36)] at z; exact z))).st g114 (by decide +kernel)).st g163 (by decide +kernel)).pu f216 (by exact om_5553976f pre9 b35.2 b35.1 p36) rfl (ObC d41 (by exact om_1c45a86e pre9 b35.2 b35.1 p36) (by have z := d99; rw [show v33.toNatClampNeg = (gQ 5).toNat from congrArg Int.toNat (by exact om_acd7a85a p36)] at z; exact z))).st g229 (by decide +kernel)).st g278 (by decide +kernel)).pu f332 (by exact om_5553976f pre9 b35.2 b35.1 p36) rfl (ObC d41 (by exact om_1c45a86e pre9 b35.2 b35.1 p36) (by have z := d99; rw [show v33.toNatClampNeg = (gQ 5).toNat from congrArg Int.toNat (by exact om_acd7a85a p36)] at z; exact z))).st g346 (by decide +kernel))), (fun dr hd => (Option.some.inj (d24.symm.trans hd)) ▸ hO357), (Or.inr (⟨(by first | done | with_reducible assumption | omega), (by first | done | with_reducible assumption | exact om_7fac24c5 eF), (by (try rw [c527]); first | done | with_reducible assumption | exact om_3345b898 p371 eF), (by (try rw [c529]); first | done | with_reducible assumption | exact om_2757374c p372 eP), trivial⟩)), trivial⟩
                          · skip
                            exfalso; exact om_3a97d4a5 p369 h530
                      · skip
                        exfalso; exact om_3624102b p290 h328
                    · skip
                      obtain ⟨v546, c547⟩ : ∃ v, I275 a0 15 = v := ⟨_, rfl⟩
                      rw [c547] at p303
                      obtain ⟨v548, c549⟩ : ∃ v, I275 a0 16 = v := ⟨_, rfl⟩
                      rw [c549] at p304
                      replace hF := hF.pos (by exact om_73cc8e29 p302)
                      replace hP := hP.pos (by exact om_73cc8e29 p302)
                      refine q_if_ne 113 dX7_readCall_108 (by decide) (fun h550 => ?_) (fun h550 => ?_)
                      · skip
                        exfalso; exact om_3a97d4a5 p301 h550
                      · skip
                        refine q_iconst dX7_readCall_111 (by decide) ?_
                        intro v551 h552
                        have eF := hF.eq
                        have eP := hP.eq
                        obtain ⟨v553, c554⟩ : ∃ v, I275 a0 2 = v := ⟨_, rfl⟩
                        have b555 := iv7_2 hS283.1 ta0 c554
                        obtain ⟨v556, c557⟩ : ∃ v, I275 a0 4 = v := ⟨_, rfl⟩
                        have b558 := iv7_4 hS283.1 ta0 c557
                        obtain ⟨v559, c560⟩ : ∃ v, I275 a0 3 = v := ⟨_, rfl⟩
                        have b561 := iv7_3 hS283.1 ta0 c560
                        obtain ⟨y562, c563⟩ : ∃ v, L277 a0 5 = v := ⟨_, rfl⟩
                        obtain ⟨v564, c565⟩ : ∃ v, I275 a0 6 = v := ⟨_, rfl⟩
                        exact tr_zret hZ dX7_readCall_112 rfl (ti_b01 (by exact om_d99fa9e4 h552) (by exact om_d3de7ec9 h552)) (by decide) (by decide) ⟨v551, rfl, rfl, rfl, rfl, rfl, hS283, hL288, (by exact om_3b50ecb9 h552), (fun al h1 => by obtain rfl := Option.some.inj (d24.symm.trans h1); exact ((((((((FrK.rf (R := R0) (al := a23) (W := fun u => u = 19 + (gQ 5).toNat) (T := T)).st g71 (by decide +kernel)).pu f103 (by exact om_5553976f pre9 b35.2 b35.1 p36) rfl (ObC d41 (by exact om_1c45a86e pre9 b35.2 b35.1 p36) (by have z := d99; rw [show v33.toNatClampNeg = (gQ 5).toNat from congrArg Int.toNat (by exact om_acd7a85a p36)] at z; exact z))).st g114 (by decide +kernel)).st g163 (by decide +kernel)).pu f216 (by exact om_5553976f pre9 b35.2 b35.1 p36) rfl (ObC d41 (by exact om_1c45a86e pre9 b35.2 b35.1 p36) (by have z := d99; rw [show v33.toNatClampNeg = (gQ 5).toNat from congrArg Int.toNat (by exact om_acd7a85a p36)] at z; exact z))).st g229 (by decide +kernel)).st g278 (by decide +kernel))), (fun dr hd => (Option.some.inj (d24.symm.trans hd)) ▸ hO287), (Or.inr (⟨(by first | done | with_reducible assumption | omega), (by first | done | with_reducible assumption | exact om_7fac24c5 eF), (by (try rw [c547]); first | done | with_reducible assumption | exact om_3345b898 p303 eF), (by (try rw [c549]); first | done | with_reducible assumption | exact om_2757374c p304 eP), trivial⟩)), trivial⟩
                    · skip
                      obtain ⟨v566, c567⟩ : ∃ v, I275 a0 15 = v := ⟨_, rfl⟩
                      rw [c567] at p308
                      obtain ⟨v568, c569⟩ : ∃ v, I275 a0 16 = v := ⟨_, rfl⟩
                      rw [c569] at p309
                      replace hF := hF.neg (by exact om_10ed11b5 p306)
                      replace hP := hP.neg (by exact om_10ed11b5 p306)
                      replace hF := hF.pos (by exact om_d2c63994 h272 h274 p307)
                      replace hP := hP.pos (by exact om_d2c63994 h272 h274 p307)
                      refine q_if_ne 113 dX7_readCall_108 (by decide) (fun h570 => ?_) (fun h570 => ?_)
                      · skip
                        exfalso; exact om_3a97d4a5 p305 h570
                      · skip
                        refine q_iconst dX7_readCall_111 (by decide) ?_
                        intro v571 h572
                        have eF := hF.eq
                        have eP := hP.eq
                        obtain ⟨v573, c574⟩ : ∃ v, I275 a0 2 = v := ⟨_, rfl⟩
                        have b575 := iv7_2 hS283.1 ta0 c574
                        obtain ⟨v576, c577⟩ : ∃ v, I275 a0 4 = v := ⟨_, rfl⟩
                        have b578 := iv7_4 hS283.1 ta0 c577
                        obtain ⟨v579, c580⟩ : ∃ v, I275 a0 3 = v := ⟨_, rfl⟩
                        have b581 := iv7_3 hS283.1 ta0 c580
                        obtain ⟨y582, c583⟩ : ∃ v, L277 a0 5 = v := ⟨_, rfl⟩
                        obtain ⟨v584, c585⟩ : ∃ v, I275 a0 6 = v := ⟨_, rfl⟩
                        exact tr_zret hZ dX7_readCall_112 rfl (ti_b01 (by exact om_d99fa9e4 h572) (by exact om_d3de7ec9 h572)) (by decide) (by decide) ⟨v571, rfl, rfl, rfl, rfl, rfl, hS283, hL288, (by exact om_3b50ecb9 h572), (fun al h1 => by obtain rfl := Option.some.inj (d24.symm.trans h1); exact ((((((((FrK.rf (R := R0) (al := a23) (W := fun u => u = 19 + (gQ 5).toNat) (T := T)).st g71 (by decide +kernel)).pu f103 (by exact om_5553976f pre9 b35.2 b35.1 p36) rfl (ObC d41 (by exact om_1c45a86e pre9 b35.2 b35.1 p36) (by have z := d99; rw [show v33.toNatClampNeg = (gQ 5).toNat from congrArg Int.toNat (by exact om_acd7a85a p36)] at z; exact z))).st g114 (by decide +kernel)).st g163 (by decide +kernel)).pu f216 (by exact om_5553976f pre9 b35.2 b35.1 p36) rfl (ObC d41 (by exact om_1c45a86e pre9 b35.2 b35.1 p36) (by have z := d99; rw [show v33.toNatClampNeg = (gQ 5).toNat from congrArg Int.toNat (by exact om_acd7a85a p36)] at z; exact z))).st g229 (by decide +kernel)).st g278 (by decide +kernel))), (fun dr hd => (Option.some.inj (d24.symm.trans hd)) ▸ hO287), (Or.inr (⟨(by first | done | with_reducible assumption | omega), (by first | done | with_reducible assumption | exact om_7b84bd42 eF), (by (try rw [c567]); first | done | with_reducible assumption | exact om_46d5da87 p308 eF), (by (try rw [c569]); first | done | with_reducible assumption | exact om_2757374c p309 eP), trivial⟩)), trivial⟩
                · skip
                  obtain ⟨v586, c587⟩ : ∃ v, I226 a0 15 = v := ⟨_, rfl⟩
                  rw [c587] at p253
                  obtain ⟨v588, c589⟩ : ∃ v, I226 a0 16 = v := ⟨_, rfl⟩
                  rw [c589] at p254
                  replace hF := hF.pos (by exact om_2d6c483d p252)
                  replace hP := hP.pos (by exact om_2d6c483d p252)
                  refine q_if_eq 111 dX7_readCall_98 (by decide) (fun h590 => ?_) (fun h590 => ?_)
                  · skip
                    refine q_iconst dX7_readCall_111 (by decide) ?_
                    intro v591 h592
                    have eF := hF.eq
                    have eP := hP.eq
                    obtain ⟨v593, c594⟩ : ∃ v, I226 a0 2 = v := ⟨_, rfl⟩
                    have b595 := iv7_2 hS234.1 ta0 c594
                    obtain ⟨v596, c597⟩ : ∃ v, I226 a0 4 = v := ⟨_, rfl⟩
                    have b598 := iv7_4 hS234.1 ta0 c597
                    obtain ⟨v599, c600⟩ : ∃ v, I226 a0 3 = v := ⟨_, rfl⟩
                    have b601 := iv7_3 hS234.1 ta0 c600
                    obtain ⟨y602, c603⟩ : ∃ v, L228 a0 5 = v := ⟨_, rfl⟩
                    obtain ⟨v604, c605⟩ : ∃ v, I226 a0 6 = v := ⟨_, rfl⟩
                    exact tr_zret hZ dX7_readCall_112 rfl (ti_b01 (by exact om_d99fa9e4 h592) (by exact om_d3de7ec9 h592)) (by decide) (by decide) ⟨v591, rfl, rfl, rfl, rfl, rfl, hS234, hL240, (by exact om_3b50ecb9 h592), (fun al h1 => by obtain rfl := Option.some.inj (d24.symm.trans h1); exact (((((((FrK.rf (R := R0) (al := a23) (W := fun u => u = 19 + (gQ 5).toNat) (T := T)).st g71 (by decide +kernel)).pu f103 (by exact om_5553976f pre9 b35.2 b35.1 p36) rfl (ObC d41 (by exact om_1c45a86e pre9 b35.2 b35.1 p36) (by have z := d99; rw [show v33.toNatClampNeg = (gQ 5).toNat from congrArg Int.toNat (by exact om_acd7a85a p36)] at z; exact z))).st g114 (by decide +kernel)).st g163 (by decide +kernel)).pu f216 (by exact om_5553976f pre9 b35.2 b35.1 p36) rfl (ObC d41 (by exact om_1c45a86e pre9 b35.2 b35.1 p36) (by have z := d99; rw [show v33.toNatClampNeg = (gQ 5).toNat from congrArg Int.toNat (by exact om_acd7a85a p36)] at z; exact z))).st g229 (by decide +kernel))), (fun dr hd => (Option.some.inj (d24.symm.trans hd)) ▸ hO239), (Or.inr (⟨(by first | done | with_reducible assumption | omega), (by first | done | with_reducible assumption | exact om_7fac24c5 eF), (by (try rw [c587]); first | done | with_reducible assumption | exact om_3345b898 p253 eF), (by (try rw [c589]); first | done | with_reducible assumption | exact om_2757374c p254 eP), trivial⟩)), trivial⟩
                  · skip
                    exfalso; exact om_3a97d4a5 p251 h590
              · skip
                exfalso; exact om_3624102b p174 h212
            · skip
              obtain ⟨v606, c607⟩ : ∃ v, I160 a0 15 = v := ⟨_, rfl⟩
              rw [c607] at p187
              obtain ⟨v608, c609⟩ : ∃ v, I160 a0 16 = v := ⟨_, rfl⟩
              rw [c609] at p188
              replace hF := hF.pos (by exact om_73cc8e29 p186)
              replace hP := hP.pos (by exact om_73cc8e29 p186)
              refine q_if_ne 83 dX7_readCall_78 (by decide) (fun h610 => ?_) (fun h610 => ?_)
              · skip
                exfalso; exact om_3a97d4a5 p185 h610
              · skip
                refine q_iconst dX7_readCall_81 (by decide) ?_
                intro v611 h612
                have eF := hF.eq
                have eP := hP.eq
                obtain ⟨v613, c614⟩ : ∃ v, I160 a0 2 = v := ⟨_, rfl⟩
                have b615 := iv7_2 hS168.1 ta0 c614
                obtain ⟨v616, c617⟩ : ∃ v, I160 a0 4 = v := ⟨_, rfl⟩
                have b618 := iv7_4 hS168.1 ta0 c617
                obtain ⟨v619, c620⟩ : ∃ v, I160 a0 3 = v := ⟨_, rfl⟩
                have b621 := iv7_3 hS168.1 ta0 c620
                obtain ⟨y622, c623⟩ : ∃ v, L162 a0 5 = v := ⟨_, rfl⟩
                obtain ⟨v624, c625⟩ : ∃ v, I160 a0 6 = v := ⟨_, rfl⟩
                exact tr_zret hZ dX7_readCall_82 rfl (ti_b01 (by exact om_d99fa9e4 h612) (by exact om_d3de7ec9 h612)) (by decide) (by decide) ⟨v611, rfl, rfl, rfl, rfl, rfl, hS168, hL172, (by exact om_3b50ecb9 h612), (fun al h1 => by obtain rfl := Option.some.inj (d24.symm.trans h1); exact (((((FrK.rf (R := R0) (al := a23) (W := fun u => u = 19 + (gQ 5).toNat) (T := T)).st g71 (by decide +kernel)).pu f103 (by exact om_5553976f pre9 b35.2 b35.1 p36) rfl (ObC d41 (by exact om_1c45a86e pre9 b35.2 b35.1 p36) (by have z := d99; rw [show v33.toNatClampNeg = (gQ 5).toNat from congrArg Int.toNat (by exact om_acd7a85a p36)] at z; exact z))).st g114 (by decide +kernel)).st g163 (by decide +kernel))), (fun dr hd => (Option.some.inj (d24.symm.trans hd)) ▸ hO171), (Or.inr (⟨(by first | done | with_reducible assumption | omega), (by first | done | with_reducible assumption | exact om_7fac24c5 eF), (by (try rw [c607]); first | done | with_reducible assumption | exact om_3345b898 p187 eF), (by (try rw [c609]); first | done | with_reducible assumption | exact om_2757374c p188 eP), trivial⟩)), trivial⟩
            · skip
              obtain ⟨v626, c627⟩ : ∃ v, I160 a0 15 = v := ⟨_, rfl⟩
              rw [c627] at p192
              obtain ⟨v628, c629⟩ : ∃ v, I160 a0 16 = v := ⟨_, rfl⟩
              rw [c629] at p193
              replace hF := hF.neg (by exact om_10ed11b5 p190)
              replace hP := hP.neg (by exact om_10ed11b5 p190)
              replace hF := hF.pos (by exact om_d7b3392e p28 h155 h157 h159 p191)
              replace hP := hP.pos (by exact om_d7b3392e p28 h155 h157 h159 p191)
              refine q_if_ne 83 dX7_readCall_78 (by decide) (fun h630 => ?_) (fun h630 => ?_)
              · skip
                exfalso; exact om_3a97d4a5 p189 h630
              · skip
                refine q_iconst dX7_readCall_81 (by decide) ?_
                intro v631 h632
                have eF := hF.eq
                have eP := hP.eq
                obtain ⟨v633, c634⟩ : ∃ v, I160 a0 2 = v := ⟨_, rfl⟩
                have b635 := iv7_2 hS168.1 ta0 c634
                obtain ⟨v636, c637⟩ : ∃ v, I160 a0 4 = v := ⟨_, rfl⟩
                have b638 := iv7_4 hS168.1 ta0 c637
                obtain ⟨v639, c640⟩ : ∃ v, I160 a0 3 = v := ⟨_, rfl⟩
                have b641 := iv7_3 hS168.1 ta0 c640
                obtain ⟨y642, c643⟩ : ∃ v, L162 a0 5 = v := ⟨_, rfl⟩
                obtain ⟨v644, c645⟩ : ∃ v, I160 a0 6 = v := ⟨_, rfl⟩
                exact tr_zret hZ dX7_readCall_82 rfl (ti_b01 (by exact om_d99fa9e4 h632) (by exact om_d3de7ec9 h632)) (by decide) (by decide) ⟨v631, rfl, rfl, rfl, rfl, rfl, hS168, hL172, (by exact om_3b50ecb9 h632), (fun al h1 => by obtain rfl := Option.some.inj (d24.symm.trans h1); exact (((((FrK.rf (R := R0) (al := a23) (W := fun u => u = 19 + (gQ 5).toNat) (T := T)).st g71 (by decide +kernel)).pu f103 (by exact om_5553976f pre9 b35.2 b35.1 p36) rfl (ObC d41 (by exact om_1c45a86e pre9 b35.2 b35.1 p36) (by have z := d99; rw [show v33.toNatClampNeg = (gQ 5).toNat from congrArg Int.toNat (by exact om_acd7a85a p36)] at z; exact z))).st g114 (by decide +kernel)).st g163 (by decide +kernel))), (fun dr hd => (Option.some.inj (d24.symm.trans hd)) ▸ hO171), (Or.inr (⟨(by first | done | with_reducible assumption | omega), (by first | done | with_reducible assumption | exact om_7b84bd42 eF), (by (try rw [c627]); first | done | with_reducible assumption | exact om_46d5da87 p192 eF), (by (try rw [c629]); first | done | with_reducible assumption | exact om_2757374c p193 eP), trivial⟩)), trivial⟩
        · skip
          obtain ⟨v646, c647⟩ : ∃ v, I111 a0 15 = v := ⟨_, rfl⟩
          rw [c647] at p136
          obtain ⟨v648, c649⟩ : ∃ v, I111 a0 16 = v := ⟨_, rfl⟩
          rw [c649] at p137
          replace hF := hF.pos (by exact om_f23dce10 p135)
          replace hP := hP.pos (by exact om_f23dce10 p135)
          refine q_if_eq 81 dX7_readCall_61 (by decide) (fun h650 => ?_) (fun h650 => ?_)
          · skip
            refine q_iconst dX7_readCall_81 (by decide) ?_
            intro v651 h652
            have eF := hF.eq
            have eP := hP.eq
            obtain ⟨v653, c654⟩ : ∃ v, I111 a0 2 = v := ⟨_, rfl⟩
            have b655 := iv7_2 hS119.1 ta0 c654
            obtain ⟨v656, c657⟩ : ∃ v, I111 a0 4 = v := ⟨_, rfl⟩
            have b658 := iv7_4 hS119.1 ta0 c657
            obtain ⟨v659, c660⟩ : ∃ v, I111 a0 3 = v := ⟨_, rfl⟩
            have b661 := iv7_3 hS119.1 ta0 c660
            obtain ⟨y662, c663⟩ : ∃ v, L113 a0 5 = v := ⟨_, rfl⟩
            obtain ⟨v664, c665⟩ : ∃ v, I111 a0 6 = v := ⟨_, rfl⟩
            exact tr_zret hZ dX7_readCall_82 rfl (ti_b01 (by exact om_d99fa9e4 h652) (by exact om_d3de7ec9 h652)) (by decide) (by decide) ⟨v651, rfl, rfl, rfl, rfl, rfl, hS119, hL123, (by exact om_3b50ecb9 h652), (fun al h1 => by obtain rfl := Option.some.inj (d24.symm.trans h1); exact ((((FrK.rf (R := R0) (al := a23) (W := fun u => u = 19 + (gQ 5).toNat) (T := T)).st g71 (by decide +kernel)).pu f103 (by exact om_5553976f pre9 b35.2 b35.1 p36) rfl (ObC d41 (by exact om_1c45a86e pre9 b35.2 b35.1 p36) (by have z := d99; rw [show v33.toNatClampNeg = (gQ 5).toNat from congrArg Int.toNat (by exact om_acd7a85a p36)] at z; exact z))).st g114 (by decide +kernel))), (fun dr hd => (Option.some.inj (d24.symm.trans hd)) ▸ hO122), (Or.inr (⟨(by first | done | with_reducible assumption | omega), (by first | done | with_reducible assumption | exact om_7fac24c5 eF), (by (try rw [c647]); first | done | with_reducible assumption | exact om_3345b898 p136 eF), (by (try rw [c649]); first | done | with_reducible assumption | exact om_2757374c p137 eP), trivial⟩)), trivial⟩
          · skip
            exfalso; exact om_3a97d4a5 p134 h650
      · skip
        replace hF := hF.pos (by exact om_673f8c18 p64 h66 h67)
        replace hP := hP.pos (by exact om_673f8c18 p64 h66 h67)
        refine tr_aload_n dX7_readCall_23 rfl ?_
        refine q_iconst dX7_readCall_24 (by decide) ?_
        intro v666 h667
        refine q_callVi hE (M' := mX7_fail) (as := [_]) dX7_readCall_25 lk7_64 inX7_fail seX7_fail myX7_fail (by decide) ⟨by decide, by decide⟩ rfl (kR7 hS0.1 ta0) (Nat.le_of_ble_eq_true rfl) rfl rfl (by decide) (by decide) (fk_X7_fail hS0.1  ta0 (by exact om_18f49b90 h667)) ?_
        rintro v673 cn' K' N' I668 R669 L670 ⟨rfl, rfl, rfl, rfl, rfl, g671, h674, p675, p676, p677, -⟩
        have hS678 := hS0.tr g671 (by decide +kernel) (by decide +kernel)
        have c679 : I668 a0 2 = v1 := (g671.cell ta0 (by decide +kernel)).trans c2
        have c680 : I668 a0 4 = v5 := (g671.cell ta0 (by decide +kernel)).trans c6
        have c681 : I668 a0 3 = v9 := (g671.cell ta0 (by decide +kernel)).trans c10
        have c682 : I668 a0 6 = v16 := (g671.cell ta0 (by decide +kernel)).trans c17
        have c683 : I668 a23 11 = v33 := (g671.cell ta23 (by decide +kernel)).trans c34
        have hO684 : FrO 2 a23 T I0 I668 := hO0.st g671 (by decide +kernel)
        obtain ⟨v685, c686⟩ : ∃ v, I668 a0 15 = v := ⟨_, rfl⟩
        rw [c686] at p676
        obtain ⟨v687, c688⟩ : ∃ v, I668 a0 16 = v := ⟨_, rfl⟩
        rw [c688] at p677
        rw [c6] at p677
        have eF := hF.eq
        have eP := hP.eq
        exact tr_zret hZ dX7_readCall_28 rfl (ti_b01 (by exact om_d99fa9e4 p675) (by exact om_d3de7ec9 p675)) (by decide) (by decide) ⟨v673, rfl, rfl, rfl, rfl, rfl, hS678, hL0, (by exact om_be53a44c h674), (fun al h1 => by obtain rfl := Option.some.inj (d24.symm.trans h1); exact ((FrK.rf (R := R0) (al := a23) (W := fun u => u = 19 + (gQ 5).toNat) (T := T)).st g671 (by decide +kernel))), (fun dr hd => (Option.some.inj (d24.symm.trans hd)) ▸ hO684), (Or.inr (⟨(by first | done | with_reducible assumption | omega), (by first | done | with_reducible assumption | exact om_ecb25a59 eF), (by (try rw [c686]); first | done | with_reducible assumption | exact om_a19a7c54 h667 p676 eF), (by (try rw [c688]); first | done | with_reducible assumption | exact om_3998a42e p8 p677 eP), trivial⟩)), trivial⟩
    · skip
      exfalso; exact om_3624102b p50 h55
  · skip
    replace hF := hF.pos (by exact om_ea380f8a p54)
    replace hP := hP.pos (by exact om_ea380f8a p54)
    refine q_if_ne 13 dX7_readCall_4 (by decide) (fun h689 => ?_) (fun h689 => ?_)
    · skip
      exfalso; exact om_3a97d4a5 p53 h689
    · skip
      refine tr_aload_n dX7_readCall_7 rfl ?_
      refine q_iconst dX7_readCall_8 (by decide) ?_
      intro v690 h691
      refine q_callVi hE (M' := mX7_fail) (as := [_]) dX7_readCall_9 lk7_64 inX7_fail seX7_fail myX7_fail (by decide) ⟨by decide, by decide⟩ rfl (kR7 hS0.1 ta0) (Nat.le_of_ble_eq_true rfl) rfl rfl (by decide) (by decide) (fk_X7_fail hS0.1  ta0 (by exact om_95922198 h691)) ?_
      rintro v697 cn' K' N' I692 R693 L694 ⟨rfl, rfl, rfl, rfl, rfl, g695, h698, p699, p700, p701, -⟩
      have hS702 := hS0.tr g695 (by decide +kernel) (by decide +kernel)
      have c703 : I692 a0 2 = v1 := (g695.cell ta0 (by decide +kernel)).trans c2
      have c704 : I692 a0 4 = v5 := (g695.cell ta0 (by decide +kernel)).trans c6
      have c705 : I692 a0 3 = v9 := (g695.cell ta0 (by decide +kernel)).trans c10
      have c706 : I692 a0 6 = v16 := (g695.cell ta0 (by decide +kernel)).trans c17
      have c707 : I692 a23 11 = v33 := (g695.cell ta23 (by decide +kernel)).trans c34
      have hO708 : FrO 2 a23 T I0 I692 := hO0.st g695 (by decide +kernel)
      obtain ⟨v709, c710⟩ : ∃ v, I692 a0 15 = v := ⟨_, rfl⟩
      rw [c710] at p700
      obtain ⟨v711, c712⟩ : ∃ v, I692 a0 16 = v := ⟨_, rfl⟩
      rw [c712] at p701
      rw [c6] at p701
      have eF := hF.eq
      have eP := hP.eq
      exact tr_zret hZ dX7_readCall_12 rfl (ti_b01 (by exact om_d99fa9e4 p699) (by exact om_d3de7ec9 p699)) (by decide) (by decide) ⟨v697, rfl, rfl, rfl, rfl, rfl, hS702, hL0, (by exact om_be53a44c h698), (fun al h1 => by obtain rfl := Option.some.inj (d24.symm.trans h1); exact ((FrK.rf (R := R0) (al := a23) (W := fun u => u = 19 + (gQ 5).toNat) (T := T)).st g695 (by decide +kernel))), (fun dr hd => (Option.some.inj (d24.symm.trans hd)) ▸ hO708), (Or.inr (⟨(by first | done | with_reducible assumption | omega), (by first | done | with_reducible assumption | exact om_7fac24c5 eF), (by (try rw [c710]); first | done | with_reducible assumption | exact om_9adad658 h691 p700 eF), (by (try rw [c712]); first | done | with_reducible assumption | exact om_3998a42e p8 p701 eP), trivial⟩)), trivial⟩
def wik_X7_readMinutes : List Nat := [384, 450, 451, 452, 454, 463, 464, 1599]
def wrk_X7_readMinutes : List Nat := []
def wlk_X7_readMinutes : List Nat := [453]
set_option maxHeartbeats 4000000 in
theorem fk_X7_readMinutes {l : Launch} {T : Nat → Nat} {cn : Nat} {K N : Nat → Nat} {I0 : cz_I} {R0 : cz_R} {L0 : cz_L} {d : Int} (hW0 : Wf T cn K N I0 R0 d) (gB : cz_B) (gs : Int) (gQ : Nat → Int) {a0 : Nat} (ta0 : T a0 = 7) {a1 : Nat} (ta1 : T a1 = 6) (hT : ∀ t, R0 a0 0 = some t → Tx I0 t gB) (pre0 : (I0 a0 2).toInt = (tkN gB gs)) (pre1 : (I0 a0 4).toInt = (tkS gB gs)) (pre2 : (I0 a0 3).toInt = (tkK gB gs)) (pre3 : (AtW ((tkK gB gs)) ((L0 a0 5).toInt) ((tkW gB gs)))) (pre4 : (AtV ((tkK gB gs)) ((I0 a0 6).toInt) ((tkV gB gs)))) (pre5 : (I0 a0 1).toInt = (gB.2)) (pre6 : ∀ b1, R0 a0 10 = some b1 → (I0 b1 0).toInt = (gQ 0)) : ConE l mX7_readMinutes [.ref a0, .ref a1] cn K N I0 R0 L0 (ca_i (fun v cn' K' N' I' R' L' => cn = cn' ∧ K = K' ∧ N = N' ∧ R0 = R' ∧ St T cn K N d wik_X7_readMinutes wrk_X7_readMinutes I0 R0 I' R0 ∧ LgS T wlk_X7_readMinutes L0 L' ∧ (0 ≤ v.toInt ∧ v.toInt ≤ 1) ∧ (∀ t, R0 a1 1 = some t → FrO 24 t T I0 I') ∧ (FrO 6 a1 T I0 I') ∧ (((v.toInt = 1) ∧ ((I' a0 15).toInt = (I0 a0 15).toInt) ∧ ((riF gB gQ 8 0 gs) = 0) ∧ ((I' a0 2).toInt = (tkN gB (riS gB gQ 8 0 gs))) ∧ ((I' a0 4).toInt = (tkS gB (riS gB gQ 8 0 gs))) ∧ ((I' a0 3).toInt = (tkK gB (riS gB gQ 8 0 gs))) ∧ ((AtW ((tkK gB (riS gB gQ 8 0 gs))) ((L' a0 5).toInt) ((tkW gB (riS gB gQ 8 0 gs))))) ∧ ((AtV ((tkK gB (riS gB gQ 8 0 gs))) ((I' a0 6).toInt) ((tkV gB (riS gB gQ 8 0 gs))))) ∧ ((I' a1 0).toInt = (riC gB 8 gs)) ∧ (∀ t, R0 a1 1 = some t → ∀ k : Nat, (k : Int) < riC gB 8 gs → (I' t k).toInt = tkV gB (it2 gB k gs)) ∧ True) ∨ ((v.toInt = 0) ∧ ((riF gB gQ 8 0 gs) ≠ 0) ∧ ((I' a0 15).toInt = (riF gB gQ 8 0 gs)) ∧ ((I' a0 16).toInt = (riP gB gQ 8 0 gs)) ∧ True)) ∧ True)) := by
  refine ConE.of (by decide +kernel) rfl (Nat.le_of_ble_eq_true rfl) rfl (fun X hX hZ hE => ?_)
  subst hX
  have hS0 : St T cn K N d wik_X7_readMinutes wrk_X7_readMinutes I0 R0 I0 R0 := St.rf0 hW0
  have hL0 : LgS T wlk_X7_readMinutes L0 L0 := LgS.rf0
  obtain ⟨v1, c2⟩ : ∃ v, I0 a0 2 = v := ⟨_, rfl⟩
  have b3 := iv7_2 hS0.1 ta0 c2
  have p4 := pre0
  rw [c2] at p4
  obtain ⟨v5, c6⟩ : ∃ v, I0 a0 4 = v := ⟨_, rfl⟩
  have b7 := iv7_4 hS0.1 ta0 c6
  have p8 := pre1
  rw [c6] at p8
  obtain ⟨v9, c10⟩ : ∃ v, I0 a0 3 = v := ⟨_, rfl⟩
  have b11 := iv7_3 hS0.1 ta0 c10
  have p12 := pre2
  rw [c10] at p12
  obtain ⟨y13, c14⟩ : ∃ v, L0 a0 5 = v := ⟨_, rfl⟩
  have p15 := pre3
  rw [c14] at p15
  obtain ⟨v16, c17⟩ : ∃ v, I0 a0 6 = v := ⟨_, rfl⟩
  have p18 := pre4
  rw [c17] at p18
  obtain ⟨v19, c20⟩ : ∃ v, I0 a0 1 = v := ⟨_, rfl⟩
  have b21 := iv7_1 hW0 ta0 c20
  have p22 := pre5
  rw [c20] at p22
  obtain ⟨a23, d24, ta23⟩ := rf7_10 hW0 ta0
  obtain ⟨v25, c26⟩ : ∃ v, I0 a23 0 = v := ⟨_, rfl⟩
  have b27 := iv2_0 hW0 ta23 c26
  have p28 := pre6 _ d24
  rw [c26] at p28
  obtain ⟨v29, c30⟩ : ∃ v, I0 a0 15 = v := ⟨_, rfl⟩
  have hO0 : FrO 6 a1 T I0 I0 := FrO.rf
  obtain ⟨a31, d32, ta31⟩ := rf6_1 hW0 ta1
  refine tr_aload_n dX7_readMinutes_0 rfl ?_
  refine q_iconst dX7_readMinutes_1 (by decide) ?_
  intro v33 h34
  refine q_putI dX7_readMinutes_2 fl7_306 (kR6 hS0.1 ta1) (Or.inl rfl) hS0 ta1 (by show (0 : Int) ≤ v33.toInt ∧ v33.toInt ≤ (8 : Int); exact om_7d21acc5 h34) rfl (by decide +kernel) ?_
  intro I35 hS36 e37 f38
  have c39 : I35 a0 2 = v1 := (f38 _ _ (fun q => absurd q.2 (by decide))).trans c2
  have c40 : I35 a0 4 = v5 := (f38 _ _ (fun q => absurd q.2 (by decide))).trans c6
  have c41 : I35 a0 3 = v9 := (f38 _ _ (fun q => absurd q.2 (by decide))).trans c10
  have c42 : I35 a0 6 = v16 := (f38 _ _ (fun q => absurd q.2 (by decide))).trans c17
  have c43 : I35 a0 15 = v29 := (f38 _ _ (fun q => absurd q.2 (by decide))).trans c30
  have hO44 : FrO 6 a1 T I0 I35 := hO0.put f38 ta1 (Or.inr rfl)
  refine q_iconst dX7_readMinutes_5 (by decide) ?_
  intro v45 h46
  refine tr_istore_n dX7_readMinutes_6 (by decide) (by decide) ?_
  refine q_iconst dX7_readMinutes_7 (by decide) ?_
  intro v47 h48
  refine tr_istore_n dX7_readMinutes_8 (by decide) (by decide) ?_
  have lp94 : ∀ (fu : Nat) (ls : Nat → Option Value) (v49 : Int32) (v50 : Int32) (I55 : cz_I) (L56 : cz_L) (gs57 : Int) (gr58 : Nat) (v62 : Int32) (v64 : Int32) (v66 : Int32) (v68 : Int32) (v70 : Int32) (y72 : Int64) (v74 : Int32), ls 0 = some (.ref a0) → ls 1 = some (.ref a1) → ls 2 = some (.int v49) → ls 3 = some (.int v50) → St T cn K N d wik_X7_readMinutes wrk_X7_readMinutes I0 R0 I55 R0 → LgS T wlk_X7_readMinutes L0 L56 → FrO 6 a1 T I0 I55 → I55 a1 0 = v62 → I55 a0 15 = v64 → I55 a0 2 = v66 → I55 a0 4 = v68 → I55 a0 3 = v70 → L56 a0 5 = y72 → I55 a0 6 = v74 → (riF gB gQ gr58 v49.toInt gs57) = (riF gB gQ 8 0 gs) → (riP gB gQ gr58 v49.toInt gs57) = (riP gB gQ 8 0 gs) → (riS gB gQ gr58 v49.toInt gs57) = (riS gB gQ 8 0 gs) → (riC gB gr58 gs57) + v50.toInt = (riC gB 8 gs) → v62.toInt = v50.toInt → 0 ≤ v49.toInt → v49.toInt ≤ 240 → 0 ≤ v50.toInt → v50.toInt ≤ 8 → ((gr58 : Int)) = -v50.toInt + 8 → v64.toInt = v29.toInt → v66.toInt = (tkN gB gs57) → v68.toInt = (tkS gB gs57) → v70.toInt = (tkK gB gs57) → (AtW ((tkK gB gs57)) (y72.toInt) ((tkW gB gs57))) → (AtV ((tkK gB gs57)) (v74.toInt) ((tkV gB gs57))) → (it2 gB v50.toInt.toNat gs = gs57 ∧ ∀ k : Nat, (k : Int) < v50.toInt → (I55 a31 k).toInt = tkV gB (it2 gB k gs)) → (FrO 24 a31 T I0 I55) → (-v50.toInt + 9).toNat < fu → Tr X mX7_readMinutes 9 ls [] cn K N I55 R0 L56 0 0 := by
    intro fu
    induction fu with
    | zero => intros; rename_i hz; exact absurd hz (Nat.not_lt_zero _)
    | succ fu ih94 =>
      intro ls v49 v50 I55 L56 gs57 gr58 v62 v64 v66 v68 v70 y72 v74 hl51 hl52 hl53 hl54 hS59 hL60 hO61 c63 c65 c67 c69 c71 c73 c75 g76 g77 g78 g79 g80 g81 g82 g83 g84 g85 g86 g87 g88 g89 g90 g91 rw92 rw93 hm94
      have b96 := iv6_0 hS59.1 ta1 c63
      have b97 := iv7_2 hS59.1 ta0 c67
      have b98 := iv7_4 hS59.1 ta0 c69
      have b99 := iv7_3 hS59.1 ta0 c71
      rcases Nat.eq_zero_or_pos gr58 with hz100 | hz100
      · skip
        subst hz100
        refine tr_iload_n dX7_readMinutes_9 hl54 ?_
        refine q_bipush dX7_readMinutes_10 (by decide +kernel) ?_
        intro v102 h103
        refine q_icmp_gt 97 dX7_readMinutes_12 (by decide) (fun h104 => ?_) (fun h104 => ?_)
        · skip
          exfalso; exact om_ffbc1b7c g79 g85 h103 h104
        · skip
          refine tr_aload_n dX7_readMinutes_15 hl51 ?_
          refine tr_iload_n dX7_readMinutes_16 hl53 ?_
          refine tr_aload_n dX7_readMinutes_17 hl51 ?_
          refine tr_getR dX7_readMinutes_18 fl7_22 (kR7 hS59.1 ta0) d24 ?_
          refine q_getI dX7_readMinutes_21 fl7_118 (kR2 hS59.1 ta23) ((hS59.cell ta23 (by decide +kernel)).trans c26) ?_
          refine q_iconst dX7_readMinutes_24 (by decide) ?_
          intro v105 h106
          refine q_isubE dX7_readMinutes_25 (by intro j1 j2 j3 j4; exact om_37812ee5 b27.2 b27.1 p28 h106) ?_
          intro v107 h108
          refine q_callVi hE (M' := mX7_seesWhole) (as := [_, _]) dX7_readMinutes_26 lk7_105 inX7_seesWhole seX7_seesWhole myX7_seesWhole (by decide) ⟨by decide, by decide⟩ rfl (kR7 hS59.1 ta0) (Nat.le_of_ble_eq_true rfl) rfl rfl (by decide) (by decide) (fk_X7_seesWhole hS59.1 (gB) (gs57) ta0 (by (try rw [c67]); first | done | with_reducible assumption | omega) (by (try rw [c69]); first | done | with_reducible assumption | omega) (by (try rw [c71]); first | done | with_reducible assumption | omega) (by (try rw [c73]); first | done | assumption) (by (try rw [c75]); first | done | assumption)) ?_
          rintro v114 cn' K' N' I109 R110 L111 ⟨rfl, rfl, rfl, rfl, rfl, g112, h115, dj116, -⟩
          have hS117 := hS59.tr g112 (by decide +kernel) (by decide +kernel)
          have c118 : I109 a1 0 = v62 := (g112.cell ta1 (by decide +kernel)).trans c63
          have c119 : I109 a0 2 = v66 := (g112.cell ta0 (by decide +kernel)).trans c67
          have c120 : I109 a0 4 = v68 := (g112.cell ta0 (by decide +kernel)).trans c69
          have c121 : I109 a0 3 = v70 := (g112.cell ta0 (by decide +kernel)).trans c71
          have c122 : I109 a0 6 = v74 := (g112.cell ta0 (by decide +kernel)).trans c75
          have hO123 : FrO 6 a1 T I0 I109 := hO61.st g112 (by decide +kernel)
          rcases dj116 with ⟨p124, p125, p126, p127, p128, p129, -⟩ | ⟨p130, p131, p132, p133, -⟩ | ⟨p134, p135, p136, p137, p138, -⟩
          · skip
            obtain ⟨v139, c140⟩ : ∃ v, I109 a0 15 = v := ⟨_, rfl⟩
            rw [c140] at p125
            rw [c65] at p125
            rw [c75] at p129
            refine q_if_ne 34 dX7_readMinutes_29 (by decide) (fun h141 => ?_) (fun h141 => ?_)
            · skip
              refine tr_iload_n dX7_readMinutes_34 hl54 ?_
              refine q_bipush dX7_readMinutes_35 (by decide +kernel) ?_
              intro v142 h143
              refine q_icmp_ne 46 dX7_readMinutes_37 (by decide) (fun h144 => ?_) (fun h144 => ?_)
              · skip
                exfalso; exact om_f208c72e g79 g85 h143 h144
              · skip
                refine tr_aload_n dX7_readMinutes_40 hl51 ?_
                refine q_iconst dX7_readMinutes_41 (by decide) ?_
                intro v145 h146
                refine q_callVi hE (M' := mX7_fail) (as := [_]) dX7_readMinutes_42 lk7_64 inX7_fail seX7_fail myX7_fail (by decide) ⟨by decide, by decide⟩ rfl (kR7 hS117.1 ta0) (Nat.le_of_ble_eq_true rfl) rfl rfl (by decide) (by decide) (fk_X7_fail hS117.1  ta0 (by exact om_054a361c h146)) ?_
                rintro v152 cn' K' N' I147 R148 L149 ⟨rfl, rfl, rfl, rfl, rfl, g150, h153, p154, p155, p156, -⟩
                have hS157 := hS117.tr g150 (by decide +kernel) (by decide +kernel)
                have c158 : I147 a1 0 = v62 := (g150.cell ta1 (by decide +kernel)).trans c118
                have c159 : I147 a0 2 = v66 := (g150.cell ta0 (by decide +kernel)).trans c119
                have c160 : I147 a0 4 = v68 := (g150.cell ta0 (by decide +kernel)).trans c120
                have c161 : I147 a0 3 = v70 := (g150.cell ta0 (by decide +kernel)).trans c121
                have c162 : I147 a0 6 = v74 := (g150.cell ta0 (by decide +kernel)).trans c122
                have hO163 : FrO 6 a1 T I0 I147 := hO123.st g150 (by decide +kernel)
                obtain ⟨v164, c165⟩ : ∃ v, I147 a0 15 = v := ⟨_, rfl⟩
                rw [c165] at p155
                obtain ⟨v166, c167⟩ : ∃ v, I147 a0 16 = v := ⟨_, rfl⟩
                rw [c167] at p156
                rw [c120] at p156
                exact tr_zret hZ dX7_readMinutes_45 rfl (ti_b01 (by exact om_d99fa9e4 p154) (by exact om_d3de7ec9 p154)) (by decide) (by decide) ⟨v152, rfl, rfl, rfl, rfl, rfl, hS157, hL60, (by exact om_be53a44c h153), (fun t ht => (Option.some.inj (d32.symm.trans ht)) ▸ (rw93.tr (((FrO.rf (r := 24) (dr := a31) (T := T)).st g112 (by decide +kernel)).st g150 (by decide +kernel)))), hO163, (Or.inr (⟨(by first | done | with_reducible assumption | omega), (by rw [← g76]; simp only [riF, ↓reduceIte]; exact om_62e43f65), (by (try rw [c165]); rw [← g76]; simp only [riF, ↓reduceIte]; exact om_ea85b178 p28 h106 h108 p126 p127 p128 p129 h146 p155), (by (try rw [c167]); rw [← g77]; simp only [riP, ↓reduceIte]; exact om_9fa72578 g88 p156), trivial⟩)), trivial⟩
            · skip
              exfalso; exact om_3624102b p124 h141
          · skip
            obtain ⟨v168, c169⟩ : ∃ v, I109 a0 15 = v := ⟨_, rfl⟩
            rw [c169] at p132
            obtain ⟨v170, c171⟩ : ∃ v, I109 a0 16 = v := ⟨_, rfl⟩
            rw [c171] at p133
            refine q_if_ne 34 dX7_readMinutes_29 (by decide) (fun h172 => ?_) (fun h172 => ?_)
            · skip
              exfalso; exact om_3a97d4a5 p130 h172
            · skip
              refine q_iconst dX7_readMinutes_32 (by decide) ?_
              intro v173 h174
              exact tr_zret hZ dX7_readMinutes_33 rfl (ti_b01 (by exact om_d99fa9e4 h174) (by exact om_d3de7ec9 h174)) (by decide) (by decide) ⟨v173, rfl, rfl, rfl, rfl, rfl, hS117, hL60, (by exact om_3b50ecb9 h174), (fun t ht => (Option.some.inj (d32.symm.trans ht)) ▸ (rw93.tr ((FrO.rf (r := 24) (dr := a31) (T := T)).st g112 (by decide +kernel)))), hO123, (Or.inr (⟨(by first | done | with_reducible assumption | omega), (by rw [← g76]; simp only [riF, ↓reduceIte]; exact om_24d90ed0 p131), (by (try rw [c169]); rw [← g76]; simp only [riF, ↓reduceIte]; exact om_111d820a p131 p132), (by (try rw [c171]); rw [← g77]; simp only [riP, ↓reduceIte]; exact om_acd7a85a p133), trivial⟩)), trivial⟩
          · skip
            obtain ⟨v175, c176⟩ : ∃ v, I109 a0 15 = v := ⟨_, rfl⟩
            rw [c176] at p137
            obtain ⟨v177, c178⟩ : ∃ v, I109 a0 16 = v := ⟨_, rfl⟩
            rw [c178] at p138
            refine q_if_ne 34 dX7_readMinutes_29 (by decide) (fun h179 => ?_) (fun h179 => ?_)
            · skip
              exfalso; exact om_3a97d4a5 p134 h179
            · skip
              refine q_iconst dX7_readMinutes_32 (by decide) ?_
              intro v180 h181
              exact tr_zret hZ dX7_readMinutes_33 rfl (ti_b01 (by exact om_d99fa9e4 h181) (by exact om_d3de7ec9 h181)) (by decide) (by decide) ⟨v180, rfl, rfl, rfl, rfl, rfl, hS117, hL60, (by exact om_3b50ecb9 h181), (fun t ht => (Option.some.inj (d32.symm.trans ht)) ▸ (rw93.tr ((FrO.rf (r := 24) (dr := a31) (T := T)).st g112 (by decide +kernel)))), hO123, (Or.inr (⟨(by first | done | with_reducible assumption | omega), (by rw [← g76]; simp only [riF, ↓reduceIte]; exact om_62e43f65), (by (try rw [c176]); rw [← g76]; simp only [riF, ↓reduceIte]; exact om_de701983 p28 h106 h108 p135 p136 p137), (by (try rw [c178]); rw [← g77]; simp only [riP, ↓reduceIte]; exact om_acd7a85a p138), trivial⟩)), trivial⟩
      · skip
        obtain ⟨gk101, rfl⟩ : ∃ k, gr58 = k + 1 := ⟨gr58 - 1, by exact om_29dbffba g80 g83 g84 g85 hz100⟩
        refine tr_iload_n dX7_readMinutes_9 hl54 ?_
        refine q_bipush dX7_readMinutes_10 (by decide +kernel) ?_
        intro v182 h183
        refine q_icmp_gt 97 dX7_readMinutes_12 (by decide) (fun h184 => ?_) (fun h184 => ?_)
        · skip
          exfalso; exact om_638233ed g83 g84 g79 g85 h183 h184
        · skip
          refine tr_aload_n dX7_readMinutes_15 hl51 ?_
          refine tr_iload_n dX7_readMinutes_16 hl53 ?_
          refine tr_aload_n dX7_readMinutes_17 hl51 ?_
          refine tr_getR dX7_readMinutes_18 fl7_22 (kR7 hS59.1 ta0) d24 ?_
          refine q_getI dX7_readMinutes_21 fl7_118 (kR2 hS59.1 ta23) ((hS59.cell ta23 (by decide +kernel)).trans c26) ?_
          refine q_iconst dX7_readMinutes_24 (by decide) ?_
          intro v185 h186
          refine q_isubE dX7_readMinutes_25 (by intro j1 j2 j3 j4; exact om_37812ee5 b27.2 b27.1 p28 h186) ?_
          intro v187 h188
          refine q_callVi hE (M' := mX7_seesWhole) (as := [_, _]) dX7_readMinutes_26 lk7_105 inX7_seesWhole seX7_seesWhole myX7_seesWhole (by decide) ⟨by decide, by decide⟩ rfl (kR7 hS59.1 ta0) (Nat.le_of_ble_eq_true rfl) rfl rfl (by decide) (by decide) (fk_X7_seesWhole hS59.1 (gB) (gs57) ta0 (by (try rw [c67]); first | done | with_reducible assumption | omega) (by (try rw [c69]); first | done | with_reducible assumption | omega) (by (try rw [c71]); first | done | with_reducible assumption | omega) (by (try rw [c73]); first | done | assumption) (by (try rw [c75]); first | done | assumption)) ?_
          rintro v194 cn' K' N' I189 R190 L191 ⟨rfl, rfl, rfl, rfl, rfl, g192, h195, dj196, -⟩
          have hS197 := hS59.tr g192 (by decide +kernel) (by decide +kernel)
          have c198 : I189 a1 0 = v62 := (g192.cell ta1 (by decide +kernel)).trans c63
          have c199 : I189 a0 2 = v66 := (g192.cell ta0 (by decide +kernel)).trans c67
          have c200 : I189 a0 4 = v68 := (g192.cell ta0 (by decide +kernel)).trans c69
          have c201 : I189 a0 3 = v70 := (g192.cell ta0 (by decide +kernel)).trans c71
          have c202 : I189 a0 6 = v74 := (g192.cell ta0 (by decide +kernel)).trans c75
          have hO203 : FrO 6 a1 T I0 I189 := hO61.st g192 (by decide +kernel)
          rcases dj196 with ⟨p204, p205, p206, p207, p208, p209, -⟩ | ⟨p210, p211, p212, p213, -⟩ | ⟨p214, p215, p216, p217, p218, -⟩
          · skip
            obtain ⟨v219, c220⟩ : ∃ v, I189 a0 15 = v := ⟨_, rfl⟩
            rw [c220] at p205
            rw [c65] at p205
            rw [c75] at p209
            refine q_if_ne 34 dX7_readMinutes_29 (by decide) (fun h221 => ?_) (fun h221 => ?_)
            · skip
              refine tr_iload_n dX7_readMinutes_34 hl54 ?_
              refine q_bipush dX7_readMinutes_35 (by decide +kernel) ?_
              intro v222 h223
              refine q_icmp_ne 46 dX7_readMinutes_37 (by decide) (fun h224 => ?_) (fun h224 => ?_)
              · skip
                refine tr_aload_n dX7_readMinutes_46 hl52 ?_
                refine tr_getR dX7_readMinutes_47 fl7_311 (kR6 hS197.1 ta1) d32 ?_
                refine tr_iload_n dX7_readMinutes_50 hl54 ?_
                refine tr_aload_n dX7_readMinutes_51 hl51 ?_
                have p225 := g91 (by exact om_80d827e6 p206)
                refine q_getI dX7_readMinutes_52 fl7_86 (kR7 hS197.1 ta0) c202 ?_
                refine q_iast dX7_readMinutes_55 (kR24 hS197.1 ta31) (ti_in (nR24 hS197.1 ta31) (by exact om_2cfcd5a5 g83) (by exact om_738a7679 g83 g84 g79 g85)) hS197 ta31 (by show (0 : Int) ≤ v74.toInt ∧ v74.toInt ≤ (239 : Int); exact om_cf21cfaf b27.2 b27.1 p28 g81 g82 h186 h188 p207 p208 p209) rfl (by rfl) ?_
                intro I226 hS227 e229 f228
                have c230 : I226 a1 0 = v62 := (f228 _ _ (fun q => by have z := ta1; rw [q.1, ta31] at z; exact absurd z (by decide))).trans c198
                have c231 : I226 a0 2 = v66 := (f228 _ _ (fun q => by have z := ta0; rw [q.1, ta31] at z; exact absurd z (by decide))).trans c199
                have c232 : I226 a0 4 = v68 := (f228 _ _ (fun q => by have z := ta0; rw [q.1, ta31] at z; exact absurd z (by decide))).trans c200
                have c233 : I226 a0 3 = v70 := (f228 _ _ (fun q => by have z := ta0; rw [q.1, ta31] at z; exact absurd z (by decide))).trans c201
                have c234 : I226 a0 6 = v74 := (f228 _ _ (fun q => by have z := ta0; rw [q.1, ta31] at z; exact absurd z (by decide))).trans c202
                have c235 : I226 a0 15 = v219 := (f228 _ _ (fun q => by have z := ta0; rw [q.1, ta31] at z; exact absurd z (by decide))).trans c220
                have hO236 : FrO 6 a1 T I0 I226 := hO203.put f228 ta31 (Or.inl (by decide))
                refine tr_aload_n dX7_readMinutes_56 hl52 ?_
                refine tr_dup dX7_readMinutes_57 rfl ?_
                refine q_getI dX7_readMinutes_58 fl7_306 (kR6 hS227.1 ta1) c230 ?_
                refine q_iconst dX7_readMinutes_61 (by decide) ?_
                intro v237 h238
                refine q_iaddE dX7_readMinutes_62 (by intro j1 j2 j3 j4; exact om_a68361dd g80 g83 g84 g79 g85 h238) ?_
                intro v239 h240
                refine q_putI dX7_readMinutes_63 fl7_306 (kR6 hS227.1 ta1) (Or.inl rfl) hS227 ta1 (by show (0 : Int) ≤ v239.toInt ∧ v239.toInt ≤ (8 : Int); exact om_9f2fa7c8 g80 g83 g84 g79 g85 h238 h240) rfl (by decide +kernel) ?_
                intro I241 hS242 e243 f244
                have c245 : I241 a0 2 = v66 := (f244 _ _ (fun q => absurd q.2 (by decide))).trans c231
                have c246 : I241 a0 4 = v68 := (f244 _ _ (fun q => absurd q.2 (by decide))).trans c232
                have c247 : I241 a0 3 = v70 := (f244 _ _ (fun q => absurd q.2 (by decide))).trans c233
                have c248 : I241 a0 6 = v74 := (f244 _ _ (fun q => absurd q.2 (by decide))).trans c234
                have c249 : I241 a0 15 = v219 := (f244 _ _ (fun q => absurd q.2 (by decide))).trans c235
                have hO250 : FrO 6 a1 T I0 I241 := hO236.put f244 ta1 (Or.inr rfl)
                refine tr_aload_n dX7_readMinutes_66 hl51 ?_
                refine q_getI dX7_readMinutes_67 fl7_86 (kR7 hS242.1 ta0) c248 ?_
                refine q_iconst dX7_readMinutes_70 (by decide) ?_
                intro v251 h252
                refine q_iaddE dX7_readMinutes_71 (by intro j1 j2 j3 j4; exact om_3fb05bbd b27.2 b27.1 p28 g81 g82 h186 h188 p207 p208 p209 h252 j1 j2) ?_
                intro v253 h254
                refine tr_istore_n dX7_readMinutes_72 (by decide) (by decide) ?_
                refine tr_aload_n dX7_readMinutes_73 hl51 ?_
                refine q_callVv hE (M' := mX7_step) (as := []) dX7_readMinutes_74 lk7_51 inX7_step seX7_step myX7_step (by decide) ⟨by decide, by decide⟩ rfl (kR7 hS242.1 ta0) (Nat.le_of_ble_eq_true rfl) rfl rfl (by decide) (by decide) (fk_X7_step hS242.1 (gB) ((tkN gB gs57)) ta0 (TxA.kp hT hS242 ta0 rfl rfl rfl (by decide +kernel) (by decide +kernel)) (by (try rw [c245]); first | done | with_reducible assumption | omega) (by (try rw [((hS242.cell ta0 (by decide +kernel)).trans c20)]); first | done | with_reducible assumption | omega)) ?_
                rintro cn' K' N' I255 R256 L257 ⟨rfl, rfl, rfl, rfl, g258, gl259, p261, p262, p263, p264, p265, -⟩
                have hS266 := hS242.tr g258 (by decide +kernel) (by decide +kernel)
                have c267 : I255 a0 15 = v219 := (g258.cell ta0 (by decide +kernel)).trans c249
                have c268 : I255 a1 0 = v239 := (g258.cell ta1 (by decide +kernel)).trans e243
                have hO269 : FrO 6 a1 T I0 I255 := hO250.st g258 (by decide +kernel)
                have hL270 := hL60.tr gl259 (by decide +kernel)
                obtain ⟨v271, c272⟩ : ∃ v, I255 a0 2 = v := ⟨_, rfl⟩
                have b273 := iv7_2 hS266.1 ta0 c272
                rw [c272] at p261
                obtain ⟨v274, c275⟩ : ∃ v, I255 a0 4 = v := ⟨_, rfl⟩
                have b276 := iv7_4 hS266.1 ta0 c275
                rw [c275] at p262
                obtain ⟨v277, c278⟩ : ∃ v, I255 a0 3 = v := ⟨_, rfl⟩
                have b279 := iv7_3 hS266.1 ta0 c278
                rw [c278] at p263
                obtain ⟨y280, c281⟩ : ∃ v, L257 a0 5 = v := ⟨_, rfl⟩
                rw [c281] at p264
                obtain ⟨v282, c283⟩ : ∃ v, I255 a0 6 = v := ⟨_, rfl⟩
                rw [c283] at p265
                refine tr_aload_n dX7_readMinutes_77 hl51 ?_
                refine q_getI dX7_readMinutes_78 fl7_58 (kR7 hS266.1 ta0) c278 ?_
                refine q_iconst dX7_readMinutes_81 (by decide) ?_
                intro v284 h285
                refine q_icmp_eq 87 dX7_readMinutes_82 (by decide) (fun h286 => ?_) (fun h286 => ?_)
                · skip
                  refine tr_aload_n dX7_readMinutes_87 hl51 ?_
                  refine q_callVv hE (M' := mX7_step) (as := []) dX7_readMinutes_88 lk7_51 inX7_step seX7_step myX7_step (by decide) ⟨by decide, by decide⟩ rfl (kR7 hS266.1 ta0) (Nat.le_of_ble_eq_true rfl) rfl rfl (by decide) (by decide) (fk_X7_step hS266.1 (gB) ((tkN gB (tkN gB gs57))) ta0 (TxA.kp hT hS266 ta0 rfl rfl rfl (by decide +kernel) (by decide +kernel)) (by (try rw [c272]); first | done | with_reducible assumption | omega) (by (try rw [((hS266.cell ta0 (by decide +kernel)).trans c20)]); first | done | with_reducible assumption | omega)) ?_
                  rintro cn' K' N' I287 R288 L289 ⟨rfl, rfl, rfl, rfl, g290, gl291, p293, p294, p295, p296, p297, -⟩
                  have hS298 := hS266.tr g290 (by decide +kernel) (by decide +kernel)
                  have c299 : I287 a0 15 = v219 := (g290.cell ta0 (by decide +kernel)).trans c267
                  have c300 : I287 a1 0 = v239 := (g290.cell ta1 (by decide +kernel)).trans c268
                  have hO301 : FrO 6 a1 T I0 I287 := hO269.st g290 (by decide +kernel)
                  have hL302 := hL270.tr gl291 (by decide +kernel)
                  obtain ⟨v303, c304⟩ : ∃ v, I287 a0 2 = v := ⟨_, rfl⟩
                  have b305 := iv7_2 hS298.1 ta0 c304
                  rw [c304] at p293
                  obtain ⟨v306, c307⟩ : ∃ v, I287 a0 4 = v := ⟨_, rfl⟩
                  have b308 := iv7_4 hS298.1 ta0 c307
                  rw [c307] at p294
                  obtain ⟨v309, c310⟩ : ∃ v, I287 a0 3 = v := ⟨_, rfl⟩
                  have b311 := iv7_3 hS298.1 ta0 c310
                  rw [c310] at p295
                  obtain ⟨y312, c313⟩ : ∃ v, L289 a0 5 = v := ⟨_, rfl⟩
                  rw [c313] at p296
                  obtain ⟨v314, c315⟩ : ∃ v, I287 a0 6 = v := ⟨_, rfl⟩
                  rw [c315] at p297
                  refine q_iincE dX7_readMinutes_91 hl54 (by decide) (by decide) (by intro j1 j2; exact om_34c16d48 g80 g83 g84 g79 g85 h238 h240) ?_
                  intro v316 h317
                  refine tr_goto 9 dX7_readMinutes_94 (by decide) ?_
                  exact ih94 _ v253 v316 I287 L289 ((tkN gB (tkN gB gs57))) (gk101) v239 v219 v303 v306 v309 y312 v314 hl51 hl52 rfl rfl hS298 hL302 hO301 c300 c299 c304 c307 c310 c313 c315 (by rw [← g76]; simp only [riF, ↓reduceIte]; rw [show v253.toInt = tkV gB gs57 + 1 by exact om_58c7f992 p209 h252 h254]; repeat' (first | split | omega)) (by rw [← g77]; simp only [riP, ↓reduceIte]; rw [show v253.toInt = tkV gB gs57 + 1 by exact om_58c7f992 p209 h252 h254]; repeat' (first | split | omega)) (by rw [← g78]; simp only [riS, ↓reduceIte]; rw [show v253.toInt = tkV gB gs57 + 1 by exact om_58c7f992 p209 h252 h254]; repeat' (first | split | omega)) (by rw [← g79]; simp only [riC, ↓reduceIte]; exact om_b8a5c838 g80 g79 g85 h238 h240 p263 h285 h286 h317) (by exact om_7e10ccba g80 g79 g85 h238 h240 h317) (by exact om_d682c8b4 g81 g82 p207 p209 h252 h254) (by exact om_8ebba6c3 b27.2 b27.1 p28 h186 h188 p208 p209 h252 h254) (by exact om_624c9091 g80 g83 g84 g79 g85 h238 h240 h317) (by exact om_7d50a28e g80 g83 g84 g79 g85 h238 h240 h317) (by exact om_29f79dea g80 g79 g85 h238 h240 h317) (by exact om_9fa72578 g86 p205) (by exact om_acd7a85a p293) (by exact om_acd7a85a p294) (by exact om_acd7a85a p295) (by assumption) (by assumption) ⟨by rw [show v316.toInt.toNat = v50.toInt.toNat + 1 by exact om_ff1f6421 g80 g83 g84 g79 g85 h238 h240 h317, it2_on, rw92.1], fun k hk => by by_cases z : (k : Int) < v50.toInt; exact (congrArg Int32.toInt ((g290.cell ta31 (wm_no (by decide +kernel))).trans ((g258.cell ta31 (wm_no (by decide +kernel))).trans ((f244 _ _ (fun q => by have z := ta31; rw [q.1, ta1] at z; exact absurd z (by decide))).trans ((f228 _ _ (fun q => by have z1 := q.2; have z3 := ti_nat (i := v50) (by exact om_2cfcd5a5 g83); exact om_ed1368e1 g80 g79 g85 h238 h240 h317 z q.2 z3)).trans (g192.cell ta31 (wm_no (by decide +kernel)))))))).trans (rw92.2 k z); have y := ti_nat (i := v50) (by exact om_2cfcd5a5 g83); obtain rfl : k = v50.toNatClampNeg := (by exact om_a63aa429 g80 g79 g85 h238 h240 h317 hk z y); rw [show I287 a31 v50.toNatClampNeg = _ from (Eq.trans ((g290.cell ta31 (wm_no (by decide +kernel))).trans ((g258.cell ta31 (wm_no (by decide +kernel))).trans (f244 _ _ (fun q => by have z := ta31; rw [q.1, ta1] at z; exact absurd z (by decide))))) e229), show v50.toNatClampNeg = v50.toInt.toNat from rfl, rw92.1]; exact om_acd7a85a p225⟩ (rw93.tr ((((((FrO.rf (r := 24) (dr := a31) (T := T)).st g192 (by decide +kernel)).put f228 ta31 (Or.inr rfl)).put f244 ta1 (Or.inl (by decide))).st g258 (by decide +kernel)).st g290 (by decide +kernel))) (by exact om_594e6061 g80 g83 g84 hm94 g79 g85 p204 h221 h223 h224 h238 h240 h317)
                · skip
                  refine q_iconst dX7_readMinutes_85 (by decide) ?_
                  intro v318 h319
                  have es320 : riS gB gQ 8 0 gs = (tkN gB gs57) := by rw [← g78]; simp only [riS, ↓reduceIte]; exact om_6d32b66e p263 h285 h286
                  obtain ⟨v321, c322⟩ : ∃ v, I255 a0 16 = v := ⟨_, rfl⟩
                  exact tr_zret hZ dX7_readMinutes_86 rfl (ti_b01 (by exact om_f9079521 h319) (by exact om_e6632817 h319)) (by decide) (by decide) ⟨v318, rfl, rfl, rfl, rfl, rfl, hS266, hL270, (by exact om_d753bc65 h319), (fun t ht => (Option.some.inj (d32.symm.trans ht)) ▸ (rw93.tr (((((FrO.rf (r := 24) (dr := a31) (T := T)).st g192 (by decide +kernel)).put f228 ta31 (Or.inr rfl)).put f244 ta1 (Or.inl (by decide))).st g258 (by decide +kernel)))), hO269, (Or.inl ⟨(by (try rw [es320]); first | done | with_reducible assumption | omega), (by (try rw [es320]); (try rw [c267]); (try rw [c30]); first | done | with_reducible assumption | exact om_9fa72578 g86 p205), (by rw [← g76]; simp only [riF, ↓reduceIte]; exact om_516b6f52 p28 h186 h188 p206 p207 p208 p209 h252 h254 p263 h285 h286), (by (try rw [es320]); (try rw [c272]); first | done | with_reducible assumption | omega), (by (try rw [es320]); (try rw [c275]); first | done | with_reducible assumption | omega), (by (try rw [es320]); (try rw [c278]); first | done | with_reducible assumption | omega), (by (try rw [es320]); (try rw [c281]); first | done | assumption), (by (try rw [es320]); (try rw [c283]); first | done | assumption), (by (try rw [c268]); rw [← g79]; simp only [riC, ↓reduceIte]; exact om_08468a6b g80 g79 g85 h238 h240 p263 h285 h286), (fun t ht k hk => by obtain rfl := Option.some.inj (d32.symm.trans ht); have hc : riC gB 8 gs = v50.toInt + 1 := (by rw [← g79]; simp only [riC, ↓reduceIte]; exact om_6695159e p263 h285 h286); by_cases z : (k : Int) < v50.toInt; exact (congrArg Int32.toInt ((g258.cell ta31 (wm_no (by decide +kernel))).trans ((f244 _ _ (fun q => by have z := ta31; rw [q.1, ta1] at z; exact absurd z (by decide))).trans ((f228 _ _ (fun q => by have z1 := q.2; have z3 := ti_nat (i := v50) (by exact om_2cfcd5a5 g83); exact om_ad0eb8dd g80 g79 g85 h238 h240 z q.2 z3)).trans (g192.cell ta31 (wm_no (by decide +kernel))))))).trans (rw92.2 k z); have y := ti_nat (i := v50) (by exact om_2cfcd5a5 g83); obtain rfl : k = v50.toNatClampNeg := (by exact om_482d0c84 g80 g79 g85 h238 h240 hk hc z y); rw [show I255 a31 v50.toNatClampNeg = _ from (Eq.trans ((g258.cell ta31 (wm_no (by decide +kernel))).trans (f244 _ _ (fun q => by have z := ta31; rw [q.1, ta1] at z; exact absurd z (by decide)))) e229), show v50.toNatClampNeg = v50.toInt.toNat from rfl, rw92.1]; exact om_acd7a85a p225), trivial⟩), trivial⟩
              · skip
                exfalso; exact om_612da44d g83 g84 g79 g85 h223 h224
            · skip
              exfalso; exact om_3624102b p204 h221
          · skip
            obtain ⟨v323, c324⟩ : ∃ v, I189 a0 15 = v := ⟨_, rfl⟩
            rw [c324] at p212
            obtain ⟨v325, c326⟩ : ∃ v, I189 a0 16 = v := ⟨_, rfl⟩
            rw [c326] at p213
            refine q_if_ne 34 dX7_readMinutes_29 (by decide) (fun h327 => ?_) (fun h327 => ?_)
            · skip
              exfalso; exact om_3a97d4a5 p210 h327
            · skip
              refine q_iconst dX7_readMinutes_32 (by decide) ?_
              intro v328 h329
              exact tr_zret hZ dX7_readMinutes_33 rfl (ti_b01 (by exact om_d99fa9e4 h329) (by exact om_d3de7ec9 h329)) (by decide) (by decide) ⟨v328, rfl, rfl, rfl, rfl, rfl, hS197, hL60, (by exact om_3b50ecb9 h329), (fun t ht => (Option.some.inj (d32.symm.trans ht)) ▸ (rw93.tr ((FrO.rf (r := 24) (dr := a31) (T := T)).st g192 (by decide +kernel)))), hO203, (Or.inr (⟨(by first | done | with_reducible assumption | omega), (by rw [← g76]; simp only [riF, ↓reduceIte]; exact om_fd03680b p211), (by (try rw [c324]); rw [← g76]; simp only [riF, ↓reduceIte]; exact om_6dcab851 p211 p212), (by (try rw [c326]); rw [← g77]; simp only [riP, ↓reduceIte]; exact om_0183a736 p211 p213), trivial⟩)), trivial⟩
          · skip
            obtain ⟨v330, c331⟩ : ∃ v, I189 a0 15 = v := ⟨_, rfl⟩
            rw [c331] at p217
            obtain ⟨v332, c333⟩ : ∃ v, I189 a0 16 = v := ⟨_, rfl⟩
            rw [c333] at p218
            refine q_if_ne 34 dX7_readMinutes_29 (by decide) (fun h334 => ?_) (fun h334 => ?_)
            · skip
              exfalso; exact om_3a97d4a5 p214 h334
            · skip
              refine q_iconst dX7_readMinutes_32 (by decide) ?_
              intro v335 h336
              exact tr_zret hZ dX7_readMinutes_33 rfl (ti_b01 (by exact om_d99fa9e4 h336) (by exact om_d3de7ec9 h336)) (by decide) (by decide) ⟨v335, rfl, rfl, rfl, rfl, rfl, hS197, hL60, (by exact om_3b50ecb9 h336), (fun t ht => (Option.some.inj (d32.symm.trans ht)) ▸ (rw93.tr ((FrO.rf (r := 24) (dr := a31) (T := T)).st g192 (by decide +kernel)))), hO203, (Or.inr (⟨(by first | done | with_reducible assumption | omega), (by rw [← g76]; simp only [riF, ↓reduceIte]; exact om_dc4127be p28 h186 h188 p216), (by (try rw [c331]); rw [← g76]; simp only [riF, ↓reduceIte]; exact om_cee36728 p28 h186 h188 p215 p216 p217), (by (try rw [c333]); rw [← g77]; simp only [riP, ↓reduceIte]; exact om_601a4714 p28 g88 b98.2 b98.1 h186 h188 p216 p218), trivial⟩)), trivial⟩
  exact lp94 _ _ v45 v47 I35 L0 (gs) (8) v33 v29 v1 v5 v9 y13 v16 rfl rfl rfl rfl hS36 hL0 hO44 e37 c43 c39 c40 c41 c14 c42 (by first | rfl | (congr 1; omega) | (congr 2 <;> omega)) (by first | rfl | (congr 1; omega) | (congr 2 <;> omega)) (by first | rfl | (congr 1; omega) | (congr 2 <;> omega)) (by exact om_04beea54 h48) (by exact om_5bac22bd h34 h48) (by exact om_d99fa9e4 h46) (by exact om_4c96df26 h46) (by exact om_d99fa9e4 h48) (by exact om_91231c9d h48) (by exact om_45513e8b h48) (by exact om_4ee7209a) (by exact om_acd7a85a p4) (by exact om_acd7a85a p8) (by exact om_acd7a85a p12) (by assumption) (by assumption) ⟨by rw [show v47.toInt.toNat = 0 by exact om_8b46d78f h48]; rfl, fun k hk => by exact om_78089df4 h48 hk⟩ ((FrO.rf (r := 24) (dr := a31) (T := T)).put f38 ta1 (Or.inl (by decide))) (Nat.lt_succ_self _)
