def wik_X12_readEvent : List Nat := [898, 968, 969, 970, 971, 972, 973, 974, 3519, 3583, 3647, 3711]
def wrk_X12_readEvent : List Nat := []
def wlk_X12_readEvent : List Nat := [975]
set_option maxHeartbeats 4000000 in
theorem fk_X12_readEvent {l : Launch} {T : Nat → Nat} {cn : Nat} {K N : Nat → Nat} {I0 : cz_I} {R0 : cz_R} {L0 : cz_L} (hW0 : Wf T cn K N I0 R0 0) (gB : cz_B) (gs : Int) (gQ : Nat → Int) {a0 : Nat} (ta0 : T a0 = 15) {x1 : Int32} (hx1 : 0 ≤ x1.toInt ∧ x1.toInt ≤ 4) (hT : ∀ t, R0 a0 5 = some t → Tx I0 t gB) (hN : ∀ b, R0 a0 4 = some b → NmM I0 R0 L0 b gQ) (pre0 : (I0 a0 9).toInt = (tkM gB gs)) (pre1 : (I0 a0 9).toInt ≤ 4) (pre2 : (I0 a0 10).toInt = (tkS gB gs)) (pre3 : (I0 a0 11).toInt = (tkG gB gs)) (pre4 : (AtW ((tkK gB gs)) ((L0 a0 15).toInt) ((tkW gB gs)))) (pre5 : (AtV ((tkK gB gs)) ((I0 a0 12).toInt) ((tkV gB gs)))) (pre6 : (AtN ((tkK gB gs)) ((I0 a0 8).toInt) ((tkN gB gs)))) (pre7 : (I0 a0 7).toInt = (gB.2)) (pre8 : ∀ b1, R0 a0 4 = some b1 → (I0 b1 0).toInt = (gQ 0)) (pre9 : ∀ b1, R0 a0 4 = some b1 → (I0 b1 1).toInt = (gQ 1)) (pre10 : ∀ b1, R0 a0 4 = some b1 → (I0 b1 2).toInt = (gQ 2)) (pre11 : ∀ b1, R0 a0 4 = some b1 → (I0 b1 3).toInt = (gQ 3)) (pre12 : ∀ b1, R0 a0 4 = some b1 → (I0 b1 4).toInt = (gQ 4)) (pre13 : ∀ b1, R0 a0 4 = some b1 → (I0 b1 5).toInt = (gQ 5)) (pre14 : ∀ b1, R0 a0 4 = some b1 → (I0 b1 6).toInt = (gQ 6)) (pre15 : ∀ b1, R0 a0 4 = some b1 → (I0 b1 9).toInt = (gQ 8)) (pre16 : (Q7M ((gQ 0)) ((gQ 7)))) (pre17 : (tkK gB gs) = 1) (pre18 : (srt gB gs) = x1.toInt) (nn4 : ∃ b, R0 a0 4 = some b) : ConE l mX12_readEvent [.ref a0, .int x1] cn K N I0 R0 L0 (ca_v (fun cn' K' N' I' R' L' => cn = cn' ∧ K = K' ∧ N = N' ∧ R0 = R' ∧ St T cn K N 0 wik_X12_readEvent wrk_X12_readEvent I0 R0 I' R0 ∧ ((((lnF gB gQ gs) = 0) ∧ (∀ b1, R0 a0 4 = some b1 → (I' b1 0).toInt = (lnQ gB gQ gs 0)) ∧ (∀ b1, R0 a0 4 = some b1 → (I' b1 1).toInt = (lnQ gB gQ gs 1)) ∧ (∀ b1, R0 a0 4 = some b1 → (I' b1 2).toInt = (lnQ gB gQ gs 2)) ∧ (∀ b1, R0 a0 4 = some b1 → (I' b1 3).toInt = (lnQ gB gQ gs 3)) ∧ (∀ b1, R0 a0 4 = some b1 → (I' b1 4).toInt = (lnQ gB gQ gs 4)) ∧ (∀ b1, R0 a0 4 = some b1 → (I' b1 5).toInt = (lnQ gB gQ gs 5)) ∧ (∀ b1, R0 a0 4 = some b1 → (I' b1 6).toInt = (lnQ gB gQ gs 6)) ∧ (∀ b1, R0 a0 4 = some b1 → (I' b1 9).toInt = (lnQ gB gQ gs 8)) ∧ ((I' a0 13).toInt = (I0 a0 13).toInt) ∧ ((I' a0 9).toInt = (tkM gB (lnS gB gQ gs))) ∧ ((I' a0 9).toInt ≤ 4) ∧ ((I' a0 10).toInt = (tkS gB (lnS gB gQ gs))) ∧ ((I' a0 11).toInt = (tkG gB (lnS gB gQ gs))) ∧ ((AtW ((tkK gB (lnS gB gQ gs))) ((L' a0 15).toInt) ((tkW gB (lnS gB gQ gs))))) ∧ ((AtV ((tkK gB (lnS gB gQ gs))) ((I' a0 12).toInt) ((tkV gB (lnS gB gQ gs))))) ∧ ((AtN ((tkK gB (lnS gB gQ gs))) ((I' a0 8).toInt) ((tkN gB (lnS gB gQ gs))))) ∧ LgS T wlk_X12_readEvent L0 L' ∧ (∀ b, R0 a0 4 = some b → NmM I' R0 L' b (lnQ gB gQ gs)) ∧ True) ∨ (((lnF gB gQ gs) ≠ 0) ∧ ((I' a0 9).toInt = 5) ∧ ((I' a0 13).toInt = (lnF gB gQ gs)) ∧ ((I' a0 14).toInt = (lnP gB gQ gs)) ∧ True)) ∧ True)) := by
  refine ConE.of (by decide +kernel) rfl (Nat.le_of_ble_eq_true rfl) rfl (fun X hX hZ hE => ?_)
  subst hX
  have hS0 : St T cn K N 0 wik_X12_readEvent wrk_X12_readEvent I0 R0 I0 R0 := St.rf0 hW0
  have hL0 : LgS T wlk_X12_readEvent L0 L0 := LgS.rf0
  obtain ⟨a1, d2⟩ := nn4
  have ta1 : T a1 = 14 := hW0.rsN ta0 rfl d2
  obtain ⟨v3, c4⟩ : ∃ v, I0 a0 9 = v := ⟨_, rfl⟩
  have b5 := iv15_9 hS0.1 ta0 c4
  have p6 := pre0
  rw [c4] at p6
  have p7 := pre1
  rw [c4] at p7
  obtain ⟨v8, c9⟩ : ∃ v, I0 a0 10 = v := ⟨_, rfl⟩
  have b10 := iv15_10 hS0.1 ta0 c9
  have p11 := pre2
  rw [c9] at p11
  obtain ⟨v12, c13⟩ : ∃ v, I0 a0 11 = v := ⟨_, rfl⟩
  have p14 := pre3
  rw [c13] at p14
  obtain ⟨y15, c16⟩ : ∃ v, L0 a0 15 = v := ⟨_, rfl⟩
  have p17 := pre4
  rw [c16] at p17
  obtain ⟨v18, c19⟩ : ∃ v, I0 a0 12 = v := ⟨_, rfl⟩
  have p20 := pre5
  rw [c19] at p20
  obtain ⟨v21, c22⟩ : ∃ v, I0 a0 8 = v := ⟨_, rfl⟩
  have b23 := iv15_8 hS0.1 ta0 c22
  have p24 := pre6
  rw [c22] at p24
  obtain ⟨v25, c26⟩ : ∃ v, I0 a0 7 = v := ⟨_, rfl⟩
  have b27 := iv15_7 hW0 ta0 c26
  have p28 := pre7
  rw [c26] at p28
  obtain ⟨v29, c30⟩ : ∃ v, I0 a1 0 = v := ⟨_, rfl⟩
  have b31 := iv14_0 hW0 ta1 c30
  have p32 := pre8 _ d2
  rw [c30] at p32
  obtain ⟨v33, c34⟩ : ∃ v, I0 a1 1 = v := ⟨_, rfl⟩
  have b35 := iv14_1 hW0 ta1 c34
  have p36 := pre9 _ d2
  rw [c34] at p36
  obtain ⟨v37, c38⟩ : ∃ v, I0 a1 2 = v := ⟨_, rfl⟩
  have b39 := iv14_2 hS0.1 ta1 c38
  have p40 := pre10 _ d2
  rw [c38] at p40
  obtain ⟨v41, c42⟩ : ∃ v, I0 a1 3 = v := ⟨_, rfl⟩
  have b43 := iv14_3 hW0 ta1 c42
  have p44 := pre11 _ d2
  rw [c42] at p44
  obtain ⟨v45, c46⟩ : ∃ v, I0 a1 4 = v := ⟨_, rfl⟩
  have b47 := iv14_4 hW0 ta1 c46
  have p48 := pre12 _ d2
  rw [c46] at p48
  obtain ⟨v49, c50⟩ : ∃ v, I0 a1 5 = v := ⟨_, rfl⟩
  have b51 := iv14_5 hW0 ta1 c50
  have p52 := pre13 _ d2
  rw [c50] at p52
  obtain ⟨v53, c54⟩ : ∃ v, I0 a1 6 = v := ⟨_, rfl⟩
  have b55 := iv14_6 hW0 ta1 c54
  have p56 := pre14 _ d2
  rw [c54] at p56
  obtain ⟨v57, c58⟩ : ∃ v, I0 a1 9 = v := ⟨_, rfl⟩
  have b59 := iv14_9 hW0 ta1 c58
  have p60 := pre15 _ d2
  rw [c58] at p60
  have p61 := pre16
  have p62 := pre17
  have p63 := pre18
  obtain ⟨v64, c65⟩ : ∃ v, I0 a0 13 = v := ⟨_, rfl⟩
  have hM0 := hN _ d2
  have hF := lnF_ch gB gQ gs
  have hP := lnP_ch gB gQ gs
  replace hF := hF.neg (by omega)
  replace hP := hP.neg (by omega)
  replace hF := hF.neg (by omega)
  replace hP := hP.neg (by omega)
  have kd66 : x1.toInt = 0 ∨ x1.toInt = 1 ∨ x1.toInt = 2 ∨ x1.toInt = 3 ∨ x1.toInt = 4 := by omega
  rcases kd66 with kd66 | kd66 | kd66 | kd66 | kd66
  · skip
    refine tr_aload_n dX12_readEvent_0 rfl ?_
    refine tr_aload_n dX12_readEvent_1 rfl ?_
    refine tr_getR dX12_readEvent_2 fl12_188 (kR15 hS0.1 ta0) d2 ?_
    refine q_getI dX12_readEvent_5 fl12_265 (kR14 hS0.1 ta1) c38 ?_
    refine q_bipush dX12_readEvent_8 (by decide +kernel) ?_
    intro v67 h68
    refine q_callVv hE (M' := mX12_begins) (as := [_, _]) dX12_readEvent_10 lk12_268 inX12_begins seX12_begins myX12_begins (by decide) ⟨by decide, by decide⟩ rfl (kR15 hS0.1 ta0) (Nat.le_of_ble_eq_true rfl) rfl rfl (by decide) (by decide) (fk_X12_begins hS0.1 (gB) (gs) (gQ) ta0 (TxA.kp hT hS0 ta0 rfl rfl rfl (by decide +kernel) (by decide +kernel)) (by (try rw [c4]); first | done | omega) (by (try rw [c4]); first | done | omega) (by (try rw [c9]); first | done | omega) (by (try rw [c13]); first | done | omega) (by (try rw [c16]); first | done | assumption) (by (try rw [c19]); first | done | assumption) (by (try rw [c22]); first | done | assumption) (by (try rw [c26]); first | done | omega) (fun q0 z0 => by obtain rfl := Option.some.inj ((d2).symm.trans z0); (try rw [c30]); first | done | omega) (by first | done | omega) ⟨_, d2⟩) ?_
    rintro cn' K' N' I69 R70 L71 ⟨rfl, rfl, rfl, rfl, g72, dj75, -⟩
    have hM76 : NmM I69 R0 L0 a1 gQ := NmM.kpS hM0 g72 hS0.1 ta1 (by decide +kernel) (by decide +kernel)
    have hS77 := hS0.tr g72 (by decide +kernel) (by decide +kernel)
    have c78 : I69 a1 2 = v37 := (g72.cell ta1 (by decide +kernel)).trans c38
    rcases dj75 with ⟨p79, p80, p81, p82, p83, p84, p85, p86, p87, p88, gl89, -⟩ | ⟨p90, p91, p92, p93, -⟩ | ⟨p94, p95, p96, p97, p98, -⟩
    · skip
      have hL99 := hL0.tr gl89 (by decide +kernel)
      have hM100 : NmM I69 R0 L71 a1 gQ := NmM.kpL hM76 gl89 hS77.1 ta1 (by decide +kernel)
      obtain ⟨v101, c102⟩ : ∃ v, I69 a0 13 = v := ⟨_, rfl⟩
      rw [c102] at p81
      rw [c65] at p81
      obtain ⟨v103, c104⟩ : ∃ v, I69 a0 9 = v := ⟨_, rfl⟩
      have b105 := iv15_9 hS77.1 ta0 c104
      rw [c104] at p82
      rw [c104] at p83
      obtain ⟨v106, c107⟩ : ∃ v, I69 a0 10 = v := ⟨_, rfl⟩
      have b108 := iv15_10 hS77.1 ta0 c107
      rw [c107] at p84
      obtain ⟨v109, c110⟩ : ∃ v, I69 a0 11 = v := ⟨_, rfl⟩
      rw [c110] at p85
      obtain ⟨y111, c112⟩ : ∃ v, L71 a0 15 = v := ⟨_, rfl⟩
      rw [c112] at p86
      obtain ⟨v113, c114⟩ : ∃ v, I69 a0 12 = v := ⟨_, rfl⟩
      rw [c114] at p87
      obtain ⟨v115, c116⟩ : ∃ v, I69 a0 8 = v := ⟨_, rfl⟩
      have b117 := iv15_8 hS77.1 ta0 c116
      rw [c116] at p88
      replace hF := hF.neg (by omega)
      replace hP := hP.neg (by omega)
      replace hF := hF.neg (by omega)
      replace hP := hP.neg (by omega)
      obtain ⟨w118, w119, w120, w121, w122, w123, w124, w125, w126, w127, w128, w129⟩ := lnl_e (B := gB) (Q := gQ) (s := gs) (by omega) (by omega)
      replace hF := hF.to w118 (evF_c0 (B := gB) (Q := gQ) (k := srt gB gs) (s := (tkN gB gs)) (by omega) (by omega))
      replace hP := hP.to w119 (evP_c0 (B := gB) (Q := gQ) (k := srt gB gs) (s := (tkN gB gs)) (by omega) (by omega))
      refine tr_iload_n dX12_readEvent_13 rfl ?_
      refine q_iconst dX12_readEvent_14 (by decide) ?_
      intro v130 h131
      refine q_icmp_eq 23 dX12_readEvent_15 (by decide) (fun h132 => ?_) (fun h132 => ?_)
      · skip
        exfalso; omega
      · skip
        refine tr_iload_n dX12_readEvent_18 rfl ?_
        refine q_iconst dX12_readEvent_19 (by decide) ?_
        intro v133 h134
        refine q_icmp_ne 40 dX12_readEvent_20 (by decide) (fun h135 => ?_) (fun h135 => ?_)
        · skip
          refine q_bipush dX12_readEvent_40 (by decide +kernel) ?_
          intro v136 h137
          refine tr_istore_n dX12_readEvent_42 (by decide) (by decide) ?_
          refine tr_aload_n dX12_readEvent_43 rfl ?_
          refine q_iconst dX12_readEvent_44 (by decide) ?_
          intro v138 h139
          refine tr_aload_n dX12_readEvent_45 rfl ?_
          refine tr_getR dX12_readEvent_46 fl12_188 (kR15 hS77.1 ta0) d2 ?_
          refine q_getI dX12_readEvent_49 fl12_192 (kR14 hS77.1 ta1) ((hS77.cell ta1 (by decide +kernel)).trans c30) ?_
          refine q_iconst dX12_readEvent_52 (by decide) ?_
          intro v140 h141
          refine q_isubE dX12_readEvent_53 (by intros; omega) ?_
          intro v142 h143
          refine q_callVi hE (M' := mX12_readWhole) (as := [_, _]) dX12_readEvent_54 lk12_161 inX12_readWhole seX12_readWhole myX12_readWhole (by decide) ⟨by decide, by decide⟩ rfl (kR15 hS77.1 ta0) (Nat.le_of_ble_eq_true rfl) rfl rfl (by decide) (by decide) (fk_X12_readWhole hS77.1 (gB) ((tkN gB gs)) ta0 (TxA.kp hT hS77 ta0 rfl rfl rfl (by decide +kernel) (by decide +kernel)) (by (try rw [c104]); first | done | omega) (by (try rw [c104]); first | done | omega) (by (try rw [c107]); first | done | omega) (by (try rw [c110]); first | done | omega) (by (try rw [c112]); first | done | assumption) (by (try rw [c114]); first | done | assumption) (by (try rw [c116]); first | done | assumption) (by (try rw [((hS77.cell ta0 (by decide +kernel)).trans c26)]); first | done | omega)) ?_
          rintro v149 cn' K' N' I144 R145 L146 ⟨rfl, rfl, rfl, rfl, g147, dj150, -⟩
          have hM151 : NmM I144 R0 L71 a1 gQ := NmM.kpS hM100 g147 hS77.1 ta1 (by decide +kernel) (by decide +kernel)
          have hS152 := hS77.tr g147 (by decide +kernel) (by decide +kernel)
          have c153 : I144 a1 2 = v37 := (g147.cell ta1 (by decide +kernel)).trans c78
          rcases dj150 with ⟨p154, p155, p156, p157, p158, p159, p160, p161, p162, p163, p164, p165, gl166, -⟩ | ⟨p167, p168, p169, p170, p171, -⟩ | ⟨p172, p173, p174, p175, p176, p177, -⟩
          · skip
            have hL178 := hL99.tr gl166 (by decide +kernel)
            have hM179 : NmM I144 R0 L146 a1 gQ := NmM.kpL hM151 gl166 hS152.1 ta1 (by decide +kernel)
            obtain ⟨v180, c181⟩ : ∃ v, I144 a0 13 = v := ⟨_, rfl⟩
            rw [c181] at p158
            rw [c102] at p158
            obtain ⟨v182, c183⟩ : ∃ v, I144 a0 9 = v := ⟨_, rfl⟩
            have b184 := iv15_9 hS152.1 ta0 c183
            rw [c183] at p159
            rw [c183] at p160
            obtain ⟨v185, c186⟩ : ∃ v, I144 a0 10 = v := ⟨_, rfl⟩
            have b187 := iv15_10 hS152.1 ta0 c186
            rw [c186] at p161
            obtain ⟨v188, c189⟩ : ∃ v, I144 a0 11 = v := ⟨_, rfl⟩
            rw [c189] at p162
            obtain ⟨y190, c191⟩ : ∃ v, L146 a0 15 = v := ⟨_, rfl⟩
            rw [c191] at p163
            obtain ⟨v192, c193⟩ : ∃ v, I144 a0 12 = v := ⟨_, rfl⟩
            rw [c193] at p164
            obtain ⟨v194, c195⟩ : ∃ v, I144 a0 8 = v := ⟨_, rfl⟩
            have b196 := iv15_8 hS152.1 ta0 c195
            rw [c195] at p165
            replace hF := hF.neg (by omega)
            replace hP := hP.neg (by omega)
            replace hF := hF.neg (by omega)
            replace hP := hP.neg (by omega)
            refine tr_istore_n dX12_readEvent_57 (by decide) (by decide) ?_
            refine tr_iload_n dX12_readEvent_58 rfl ?_
            refine q_iconst dX12_readEvent_59 (by decide) ?_
            intro v197 h198
            refine q_icmp_ne 69 dX12_readEvent_60 (by decide) (fun h199 => ?_) (fun h199 => ?_)
            · skip
              refine tr_aload_n dX12_readEvent_69 rfl ?_
              refine tr_ldcwS dX12_readEvent_70 ld12_272 ?_
              refine tr_iload_n dX12_readEvent_73 rfl ?_
              refine q_iconst dX12_readEvent_74 (by decide) ?_
              intro v200 h201
              refine q_iaddE dX12_readEvent_75 (by intros; omega) ?_
              intro v202 h203
              refine tr_aload_n dX12_readEvent_76 rfl ?_
              refine tr_getR dX12_readEvent_77 fl12_188 (kR15 hS152.1 ta0) d2 ?_
              refine q_getI dX12_readEvent_80 fl12_192 (kR14 hS152.1 ta1) ((hS152.cell ta1 (by decide +kernel)).trans c30) ?_
              refine q_callVi hE (M' := mX12_readPart) (as := [_, _, _]) dX12_readEvent_83 lk12_249 inX12_readPart seX12_readPart myX12_readPart (by decide) ⟨by decide, by decide⟩ rfl (kR15 hS152.1 ta0) (Nat.le_of_ble_eq_true rfl) rfl rfl (by decide) (by decide) (fk_X12_readPart hS152.1 (gB) ((tkN gB (tkN gB gs))) ta0 (by decide) (TxA.kp hT hS152 ta0 rfl rfl rfl (by decide +kernel) (by decide +kernel)) (by (try rw [c183]); first | done | omega) (by (try rw [c183]); first | done | omega) (by (try rw [c186]); first | done | omega) (by (try rw [c189]); first | done | omega) (by (try rw [c191]); first | done | assumption) (by (try rw [c193]); first | done | assumption) (by (try rw [c195]); first | done | assumption) (by (try rw [((hS152.cell ta0 (by decide +kernel)).trans c26)]); first | done | omega)) ?_
              rintro v209 cn' K' N' I204 R205 L206 ⟨rfl, rfl, rfl, rfl, g207, dj210, -⟩
              (try rw [pk_25] at dj210)
              have hM211 : NmM I204 R0 L146 a1 gQ := NmM.kpS hM179 g207 hS152.1 ta1 (by decide +kernel) (by decide +kernel)
              have hS212 := hS152.tr g207 (by decide +kernel) (by decide +kernel)
              have c213 : I204 a1 2 = v37 := (g207.cell ta1 (by decide +kernel)).trans c153
              rcases dj210 with ⟨p214, p215, p216, p217, p218, p219, p220, p221, p222, p223, p224, p225, p226, p227, gl228, -⟩ | ⟨p229, p230, p231, p232, p233, -⟩ | ⟨p234, p235, p236, p237, p238, p239, p240, -⟩ | ⟨p241, p242, p243, p244, p245, p246, p247, p248, -⟩
              · skip
                have hL249 := hL178.tr gl228 (by decide +kernel)
                have hM250 : NmM I204 R0 L206 a1 gQ := NmM.kpL hM211 gl228 hS212.1 ta1 (by decide +kernel)
                obtain ⟨v251, c252⟩ : ∃ v, I204 a0 13 = v := ⟨_, rfl⟩
                rw [c252] at p220
                rw [c181] at p220
                obtain ⟨v253, c254⟩ : ∃ v, I204 a0 9 = v := ⟨_, rfl⟩
                have b255 := iv15_9 hS212.1 ta0 c254
                rw [c254] at p221
                rw [c254] at p222
                obtain ⟨v256, c257⟩ : ∃ v, I204 a0 10 = v := ⟨_, rfl⟩
                have b258 := iv15_10 hS212.1 ta0 c257
                rw [c257] at p223
                obtain ⟨v259, c260⟩ : ∃ v, I204 a0 11 = v := ⟨_, rfl⟩
                rw [c260] at p224
                obtain ⟨y261, c262⟩ : ∃ v, L206 a0 15 = v := ⟨_, rfl⟩
                rw [c262] at p225
                obtain ⟨v263, c264⟩ : ∃ v, I204 a0 12 = v := ⟨_, rfl⟩
                rw [c264] at p226
                obtain ⟨v265, c266⟩ : ∃ v, I204 a0 8 = v := ⟨_, rfl⟩
                have b267 := iv15_8 hS212.1 ta0 c266
                rw [c266] at p227
                replace hF := hF.neg (by omega)
                replace hP := hP.neg (by omega)
                replace hF := hF.neg (by omega)
                replace hP := hP.neg (by omega)
                replace hF := hF.neg (by omega)
                replace hP := hP.neg (by omega)
                refine tr_istore dX12_readEvent_86 (by decide) (by decide) ?_
                refine tr_aload_n dX12_readEvent_88 rfl ?_
                refine q_getI dX12_readEvent_89 fl12_99 (kR15 hS212.1 ta0) c254 ?_
                refine q_iconst dX12_readEvent_92 (by decide) ?_
                intro v268 h269
                refine q_icmp_ne 97 dX12_readEvent_93 (by decide) (fun h270 => ?_) (fun h270 => ?_)
                · skip
                  refine tr_aload_n dX12_readEvent_97 rfl ?_
                  refine tr_getR dX12_readEvent_98 fl12_188 (kR15 hS212.1 ta0) d2 ?_
                  refine q_getI dX12_readEvent_101 fl12_265 (kR14 hS212.1 ta1) c213 ?_
                  refine tr_istore dX12_readEvent_104 (by decide) (by decide) ?_
                  refine tr_aload_n dX12_readEvent_106 rfl ?_
                  refine tr_getR dX12_readEvent_107 fl12_188 (kR15 hS212.1 ta0) d2 ?_
                  obtain ⟨a271, d272, ta271⟩ := rf14_11 hW0 ta1
                  refine tr_getR dX12_readEvent_110 fl12_274 (kR14 hS212.1 ta1) d272 ?_
                  refine tr_iload dX12_readEvent_113 rfl ?_
                  refine tr_iload_n dX12_readEvent_115 rfl ?_
                  refine q_iastX dX12_readEvent_116 (kR54 hS212.1 ta271) (ti_in (nR54 hS212.1 ta271) (by omega) (by omega)) hS212 ta271 (by rfl) (hS212.1.putK (m := a1) ta1 d272 (by rw [c213]; exact Int.le_of_eq (ti_nat (by omega)).symm)) ?_
                  intro I277 hS278 e279 f280
                  have c281 : I277 a1 2 = v37 := (f280 _ _ (fun q => by have z := ta1; rw [q.1, ta271] at z; exact absurd z (by decide))).trans c213
                  have c282 : I277 a0 13 = v251 := (f280 _ _ (fun q => by have z := ta0; rw [q.1, ta271] at z; exact absurd z (by decide))).trans c252
                  have c283 : I277 a0 9 = v253 := (f280 _ _ (fun q => by have z := ta0; rw [q.1, ta271] at z; exact absurd z (by decide))).trans c254
                  have c284 : I277 a0 10 = v256 := (f280 _ _ (fun q => by have z := ta0; rw [q.1, ta271] at z; exact absurd z (by decide))).trans c257
                  have c285 : I277 a0 11 = v259 := (f280 _ _ (fun q => by have z := ta0; rw [q.1, ta271] at z; exact absurd z (by decide))).trans c260
                  have c286 : I277 a0 12 = v263 := (f280 _ _ (fun q => by have z := ta0; rw [q.1, ta271] at z; exact absurd z (by decide))).trans c264
                  have c287 : I277 a0 8 = v265 := (f280 _ _ (fun q => by have z := ta0; rw [q.1, ta271] at z; exact absurd z (by decide))).trans c266
                  have hM288 : NmM I277 R0 L206 a1 gQ := NmM.kp1 hM250 f280 ta271 rfl rfl hS212.1 ta1
                  refine tr_aload_n dX12_readEvent_117 rfl ?_
                  refine tr_getR dX12_readEvent_118 fl12_188 (kR15 hS278.1 ta0) d2 ?_
                  obtain ⟨a289, d290, ta289⟩ := rf14_12 hW0 ta1
                  refine tr_getR dX12_readEvent_121 fl12_277 (kR14 hS278.1 ta1) d290 ?_
                  refine tr_iload dX12_readEvent_124 rfl ?_
                  refine tr_iload_n dX12_readEvent_126 rfl ?_
                  refine q_iastX dX12_readEvent_127 (kR55 hS278.1 ta289) (ti_in (nR55 hS278.1 ta289) (by omega) (by omega)) hS278 ta289 (by rfl) (hS278.1.putH (m := a1) ta1 d290 (by rw [c281]; exact Int.le_of_eq (ti_nat (by omega)).symm) (by omega)) ?_
                  intro I295 hS296 e297 f298
                  have c299 : I295 a1 2 = v37 := (f298 _ _ (fun q => by have z := ta1; rw [q.1, ta289] at z; exact absurd z (by decide))).trans c281
                  have c300 : I295 a0 13 = v251 := (f298 _ _ (fun q => by have z := ta0; rw [q.1, ta289] at z; exact absurd z (by decide))).trans c282
                  have c301 : I295 a0 9 = v253 := (f298 _ _ (fun q => by have z := ta0; rw [q.1, ta289] at z; exact absurd z (by decide))).trans c283
                  have c302 : I295 a0 10 = v256 := (f298 _ _ (fun q => by have z := ta0; rw [q.1, ta289] at z; exact absurd z (by decide))).trans c284
                  have c303 : I295 a0 11 = v259 := (f298 _ _ (fun q => by have z := ta0; rw [q.1, ta289] at z; exact absurd z (by decide))).trans c285
                  have c304 : I295 a0 12 = v263 := (f298 _ _ (fun q => by have z := ta0; rw [q.1, ta289] at z; exact absurd z (by decide))).trans c286
                  have c305 : I295 a0 8 = v265 := (f298 _ _ (fun q => by have z := ta0; rw [q.1, ta289] at z; exact absurd z (by decide))).trans c287
                  have c306 : I295 a271 v37.toNatClampNeg = x1 := (f298 _ _ (fun q => by have z := ta271; rw [q.1, ta289] at z; exact absurd z (by decide))).trans e279
                  have hM307 : NmM I295 R0 L206 a1 gQ := NmM.kp1 hM288 f298 ta289 rfl rfl hS278.1 ta1
                  refine tr_aload_n dX12_readEvent_128 rfl ?_
                  refine tr_getR dX12_readEvent_129 fl12_188 (kR15 hS296.1 ta0) d2 ?_
                  obtain ⟨a308, d309, ta308⟩ := rf14_13 hW0 ta1
                  refine tr_getR dX12_readEvent_132 fl12_280 (kR14 hS296.1 ta1) d309 ?_
                  refine tr_iload dX12_readEvent_135 rfl ?_
                  refine tr_iload_n dX12_readEvent_137 rfl ?_
                  refine q_iast dX12_readEvent_138 (kR56 hS296.1 ta308) (ti_in (nR56 hS296.1 ta308) (by omega) (by omega)) hS296 ta308 (by show (0 : Int) ≤ v149.toInt ∧ v149.toInt ≤ (240 : Int); omega) rfl (by rfl) ?_
                  intro I310 hS311 e313 f312
                  have c314 : I310 a1 2 = v37 := (f312 _ _ (fun q => by have z := ta1; rw [q.1, ta308] at z; exact absurd z (by decide))).trans c299
                  have c315 : I310 a0 13 = v251 := (f312 _ _ (fun q => by have z := ta0; rw [q.1, ta308] at z; exact absurd z (by decide))).trans c300
                  have c316 : I310 a0 9 = v253 := (f312 _ _ (fun q => by have z := ta0; rw [q.1, ta308] at z; exact absurd z (by decide))).trans c301
                  have c317 : I310 a0 10 = v256 := (f312 _ _ (fun q => by have z := ta0; rw [q.1, ta308] at z; exact absurd z (by decide))).trans c302
                  have c318 : I310 a0 11 = v259 := (f312 _ _ (fun q => by have z := ta0; rw [q.1, ta308] at z; exact absurd z (by decide))).trans c303
                  have c319 : I310 a0 12 = v263 := (f312 _ _ (fun q => by have z := ta0; rw [q.1, ta308] at z; exact absurd z (by decide))).trans c304
                  have c320 : I310 a0 8 = v265 := (f312 _ _ (fun q => by have z := ta0; rw [q.1, ta308] at z; exact absurd z (by decide))).trans c305
                  have c321 : I310 a271 v37.toNatClampNeg = x1 := (f312 _ _ (fun q => by have z := ta271; rw [q.1, ta308] at z; exact absurd z (by decide))).trans c306
                  have c322 : I310 a289 v37.toNatClampNeg = v136 := (f312 _ _ (fun q => by have z := ta289; rw [q.1, ta308] at z; exact absurd z (by decide))).trans e297
                  have hM323 : NmM I310 R0 L206 a1 gQ := NmM.kp1 hM307 f312 ta308 rfl rfl hS296.1 ta1
                  refine tr_aload_n dX12_readEvent_139 rfl ?_
                  refine tr_getR dX12_readEvent_140 fl12_188 (kR15 hS311.1 ta0) d2 ?_
                  obtain ⟨a324, d325, ta324⟩ := rf14_14 hW0 ta1
                  refine tr_getR dX12_readEvent_143 fl12_283 (kR14 hS311.1 ta1) d325 ?_
                  refine tr_iload dX12_readEvent_146 rfl ?_
                  refine tr_iload dX12_readEvent_148 rfl ?_
                  refine q_iast dX12_readEvent_150 (kR57 hS311.1 ta324) (ti_in (nR57 hS311.1 ta324) (by omega) (by omega)) hS311 ta324 (by show (0 : Int) ≤ v209.toInt ∧ v209.toInt ≤ (240 : Int); omega) rfl (by rfl) ?_
                  intro I326 hS327 e329 f328
                  have c330 : I326 a1 2 = v37 := (f328 _ _ (fun q => by have z := ta1; rw [q.1, ta324] at z; exact absurd z (by decide))).trans c314
                  have c331 : I326 a0 13 = v251 := (f328 _ _ (fun q => by have z := ta0; rw [q.1, ta324] at z; exact absurd z (by decide))).trans c315
                  have c332 : I326 a0 9 = v253 := (f328 _ _ (fun q => by have z := ta0; rw [q.1, ta324] at z; exact absurd z (by decide))).trans c316
                  have c333 : I326 a0 10 = v256 := (f328 _ _ (fun q => by have z := ta0; rw [q.1, ta324] at z; exact absurd z (by decide))).trans c317
                  have c334 : I326 a0 11 = v259 := (f328 _ _ (fun q => by have z := ta0; rw [q.1, ta324] at z; exact absurd z (by decide))).trans c318
                  have c335 : I326 a0 12 = v263 := (f328 _ _ (fun q => by have z := ta0; rw [q.1, ta324] at z; exact absurd z (by decide))).trans c319
                  have c336 : I326 a0 8 = v265 := (f328 _ _ (fun q => by have z := ta0; rw [q.1, ta324] at z; exact absurd z (by decide))).trans c320
                  have c337 : I326 a271 v37.toNatClampNeg = x1 := (f328 _ _ (fun q => by have z := ta271; rw [q.1, ta324] at z; exact absurd z (by decide))).trans c321
                  have c338 : I326 a289 v37.toNatClampNeg = v136 := (f328 _ _ (fun q => by have z := ta289; rw [q.1, ta324] at z; exact absurd z (by decide))).trans c322
                  have hM339 : NmM I326 R0 L206 a1 gQ := NmM.kp1 hM323 f328 ta324 rfl rfl hS311.1 ta1
                  refine tr_aload_n dX12_readEvent_151 rfl ?_
                  refine tr_getR dX12_readEvent_152 fl12_188 (kR15 hS327.1 ta0) d2 ?_
                  refine tr_dup dX12_readEvent_155 rfl ?_
                  refine q_getI dX12_readEvent_156 fl12_265 (kR14 hS327.1 ta1) c330 ?_
                  refine q_iconst dX12_readEvent_159 (by decide) ?_
                  intro v340 h341
                  refine q_iaddE dX12_readEvent_160 (by intros; omega) ?_
                  intro v342 h343
                  refine q_putX dX12_readEvent_161 fl12_265 (kR14 hS327.1 ta1) (Or.inl rfl) hS327 ta1 (by decide +kernel) (hS327.1.putE (i := v37.toNatClampNeg) ta1 d272 d290 (by rw [c330]; exact (ti_nat (by omega)).symm) (by rw [c330]; omega) (by omega) (by rw [c337, c338]; omega)) ?_
                  intro I344 hS345 e346 f347
                  have c348 : I344 a0 13 = v251 := (f347 _ _ (fun q => absurd q.2 (by decide))).trans c331
                  have c349 : I344 a0 9 = v253 := (f347 _ _ (fun q => absurd q.2 (by decide))).trans c332
                  have c350 : I344 a0 10 = v256 := (f347 _ _ (fun q => absurd q.2 (by decide))).trans c333
                  have c351 : I344 a0 11 = v259 := (f347 _ _ (fun q => absurd q.2 (by decide))).trans c334
                  have c352 : I344 a0 12 = v263 := (f347 _ _ (fun q => absurd q.2 (by decide))).trans c335
                  have c353 : I344 a0 8 = v265 := (f347 _ _ (fun q => absurd q.2 (by decide))).trans c336
                  have c354 : I344 a271 v37.toNatClampNeg = x1 := (f347 _ _ (fun q => by have z := ta271; rw [q.1, ta1] at z; exact absurd z (by decide))).trans c337
                  have c355 : I344 a289 v37.toNatClampNeg = v136 := (f347 _ _ (fun q => by have z := ta289; rw [q.1, ta1] at z; exact absurd z (by decide))).trans c338
                  have hM356 : NmM I344 R0 L206 a1 gQ := NmM.kp1 hM339 f347 ta1 rfl rfl hS327.1 ta1
                  have eF := hF.eq
                  have eP := hP.eq
                  have es357 := evS_c0 (B := gB) (Q := gQ) (k := srt gB gs) (s := (tkN gB gs)) (by omega) (by omega)
                  obtain ⟨v358, c359⟩ : ∃ v, I344 a0 14 = v := ⟨_, rfl⟩
                  exact tr_vret hZ dX12_readEvent_164 rfl (by decide) (by decide) ⟨rfl, rfl, rfl, rfl, rfl, hS345, (Or.inl ⟨(by (try rw [w120]); (try rw [es357]); first | done | omega), (fun q0 z0 => by obtain rfl := Option.some.inj ((d2).symm.trans z0); (try rw [w120]); (try rw [es357]); (try rw [((hS345.cell ta1 (by decide +kernel)).trans c30)]); first | done | omega), (fun q0 z0 => by obtain rfl := Option.some.inj ((d2).symm.trans z0); (try rw [w120]); (try rw [es357]); (try rw [((hS345.cell ta1 (by decide +kernel)).trans c34)]); first | done | omega), (fun q0 z0 => by obtain rfl := Option.some.inj ((d2).symm.trans z0); (try rw [w120]); (try rw [es357]); (try rw [e346]); first | done | omega), (fun q0 z0 => by obtain rfl := Option.some.inj ((d2).symm.trans z0); (try rw [w120]); (try rw [es357]); (try rw [((hS345.cell ta1 (by decide +kernel)).trans c42)]); first | done | omega), (fun q0 z0 => by obtain rfl := Option.some.inj ((d2).symm.trans z0); (try rw [w120]); (try rw [es357]); (try rw [((hS345.cell ta1 (by decide +kernel)).trans c46)]); first | done | omega), (fun q0 z0 => by obtain rfl := Option.some.inj ((d2).symm.trans z0); (try rw [w120]); (try rw [es357]); (try rw [((hS345.cell ta1 (by decide +kernel)).trans c50)]); first | done | omega), (fun q0 z0 => by obtain rfl := Option.some.inj ((d2).symm.trans z0); (try rw [w120]); (try rw [es357]); (try rw [((hS345.cell ta1 (by decide +kernel)).trans c54)]); first | done | omega), (fun q0 z0 => by obtain rfl := Option.some.inj ((d2).symm.trans z0); (try rw [w120]); (try rw [es357]); (try rw [((hS345.cell ta1 (by decide +kernel)).trans c58)]); first | done | omega), (by (try rw [w120]); (try rw [es357]); (try rw [c348]); (try rw [c65]); first | done | omega), (by (try rw [w120]); (try rw [es357]); (try rw [c349]); first | done | omega), (by (try rw [w120]); (try rw [es357]); (try rw [c349]); first | done | omega), (by (try rw [w120]); (try rw [es357]); (try rw [c350]); first | done | omega), (by (try rw [w120]); (try rw [es357]); (try rw [c351]); first | done | omega), (by (try rw [w120]); (try rw [es357]); (try rw [c262]); first | done | assumption), (by (try rw [w120]); (try rw [es357]); (try rw [c352]); first | done | assumption), (by (try rw [w120]); (try rw [es357]); (try rw [c353]); first | done | assumption), hL249, (fun b hb => (Option.some.inj (d2.symm.trans hb)) ▸ NmM.ln (NmM.bd (k := srt gB gs) hM356 (by omega) (by omega)) rfl), trivial⟩), trivial⟩
                · skip
                  exfalso; omega
              · skip
                obtain ⟨v360, c361⟩ : ∃ v, I204 a0 9 = v := ⟨_, rfl⟩
                have b362 := iv15_9 hS212.1 ta0 c361
                rw [c361] at p231
                obtain ⟨v363, c364⟩ : ∃ v, I204 a0 13 = v := ⟨_, rfl⟩
                rw [c364] at p232
                obtain ⟨v365, c366⟩ : ∃ v, I204 a0 14 = v := ⟨_, rfl⟩
                rw [c366] at p233
                replace hF := hF.pos (by omega)
                replace hP := hP.pos (by omega)
                refine tr_istore dX12_readEvent_86 (by decide) (by decide) ?_
                refine tr_aload_n dX12_readEvent_88 rfl ?_
                refine q_getI dX12_readEvent_89 fl12_99 (kR15 hS212.1 ta0) c361 ?_
                refine q_iconst dX12_readEvent_92 (by decide) ?_
                intro v367 h368
                refine q_icmp_ne 97 dX12_readEvent_93 (by decide) (fun h369 => ?_) (fun h369 => ?_)
                · skip
                  exfalso; omega
                · skip
                  have eF := hF.eq
                  have eP := hP.eq
                  obtain ⟨v370, c371⟩ : ∃ v, I204 a0 10 = v := ⟨_, rfl⟩
                  have b372 := iv15_10 hS212.1 ta0 c371
                  obtain ⟨v373, c374⟩ : ∃ v, I204 a0 11 = v := ⟨_, rfl⟩
                  obtain ⟨y375, c376⟩ : ∃ v, L206 a0 15 = v := ⟨_, rfl⟩
                  obtain ⟨v377, c378⟩ : ∃ v, I204 a0 12 = v := ⟨_, rfl⟩
                  obtain ⟨v379, c380⟩ : ∃ v, I204 a0 8 = v := ⟨_, rfl⟩
                  have b381 := iv15_8 hS212.1 ta0 c380
                  exact tr_vret hZ dX12_readEvent_96 rfl (by decide) (by decide) ⟨rfl, rfl, rfl, rfl, rfl, hS212, (Or.inr (⟨(by (try rw [w120]); first | done | omega), (by (try rw [w120]); (try rw [c361]); first | done | omega), (by (try rw [w120]); (try rw [c364]); first | done | omega), (by (try rw [w120]); (try rw [c366]); first | done | omega), trivial⟩)), trivial⟩
              · skip
                obtain ⟨v382, c383⟩ : ∃ v, I204 a0 9 = v := ⟨_, rfl⟩
                have b384 := iv15_9 hS212.1 ta0 c383
                rw [c383] at p238
                obtain ⟨v385, c386⟩ : ∃ v, I204 a0 13 = v := ⟨_, rfl⟩
                rw [c386] at p239
                obtain ⟨v387, c388⟩ : ∃ v, I204 a0 14 = v := ⟨_, rfl⟩
                rw [c388] at p240
                replace hF := hF.neg (by omega)
                replace hP := hP.neg (by omega)
                replace hF := hF.pos (by omega)
                replace hP := hP.pos (by omega)
                refine tr_istore dX12_readEvent_86 (by decide) (by decide) ?_
                refine tr_aload_n dX12_readEvent_88 rfl ?_
                refine q_getI dX12_readEvent_89 fl12_99 (kR15 hS212.1 ta0) c383 ?_
                refine q_iconst dX12_readEvent_92 (by decide) ?_
                intro v389 h390
                refine q_icmp_ne 97 dX12_readEvent_93 (by decide) (fun h391 => ?_) (fun h391 => ?_)
                · skip
                  exfalso; omega
                · skip
                  have eF := hF.eq
                  have eP := hP.eq
                  obtain ⟨v392, c393⟩ : ∃ v, I204 a0 10 = v := ⟨_, rfl⟩
                  have b394 := iv15_10 hS212.1 ta0 c393
                  obtain ⟨v395, c396⟩ : ∃ v, I204 a0 11 = v := ⟨_, rfl⟩
                  obtain ⟨y397, c398⟩ : ∃ v, L206 a0 15 = v := ⟨_, rfl⟩
                  obtain ⟨v399, c400⟩ : ∃ v, I204 a0 12 = v := ⟨_, rfl⟩
                  obtain ⟨v401, c402⟩ : ∃ v, I204 a0 8 = v := ⟨_, rfl⟩
                  have b403 := iv15_8 hS212.1 ta0 c402
                  exact tr_vret hZ dX12_readEvent_96 rfl (by decide) (by decide) ⟨rfl, rfl, rfl, rfl, rfl, hS212, (Or.inr (⟨(by (try rw [w120]); first | done | omega), (by (try rw [w120]); (try rw [c383]); first | done | omega), (by (try rw [w120]); (try rw [c386]); first | done | omega), (by (try rw [w120]); (try rw [c388]); first | done | omega), trivial⟩)), trivial⟩
              · skip
                obtain ⟨v404, c405⟩ : ∃ v, I204 a0 9 = v := ⟨_, rfl⟩
                have b406 := iv15_9 hS212.1 ta0 c405
                rw [c405] at p246
                obtain ⟨v407, c408⟩ : ∃ v, I204 a0 13 = v := ⟨_, rfl⟩
                rw [c408] at p247
                obtain ⟨v409, c410⟩ : ∃ v, I204 a0 14 = v := ⟨_, rfl⟩
                rw [c410] at p248
                replace hF := hF.neg (by omega)
                replace hP := hP.neg (by omega)
                replace hF := hF.neg (by omega)
                replace hP := hP.neg (by omega)
                replace hF := hF.pos (by omega)
                replace hP := hP.pos (by omega)
                refine tr_istore dX12_readEvent_86 (by decide) (by decide) ?_
                refine tr_aload_n dX12_readEvent_88 rfl ?_
                refine q_getI dX12_readEvent_89 fl12_99 (kR15 hS212.1 ta0) c405 ?_
                refine q_iconst dX12_readEvent_92 (by decide) ?_
                intro v411 h412
                refine q_icmp_ne 97 dX12_readEvent_93 (by decide) (fun h413 => ?_) (fun h413 => ?_)
                · skip
                  exfalso; omega
                · skip
                  have eF := hF.eq
                  have eP := hP.eq
                  obtain ⟨v414, c415⟩ : ∃ v, I204 a0 10 = v := ⟨_, rfl⟩
                  have b416 := iv15_10 hS212.1 ta0 c415
                  obtain ⟨v417, c418⟩ : ∃ v, I204 a0 11 = v := ⟨_, rfl⟩
                  obtain ⟨y419, c420⟩ : ∃ v, L206 a0 15 = v := ⟨_, rfl⟩
                  obtain ⟨v421, c422⟩ : ∃ v, I204 a0 12 = v := ⟨_, rfl⟩
                  obtain ⟨v423, c424⟩ : ∃ v, I204 a0 8 = v := ⟨_, rfl⟩
                  have b425 := iv15_8 hS212.1 ta0 c424
                  exact tr_vret hZ dX12_readEvent_96 rfl (by decide) (by decide) ⟨rfl, rfl, rfl, rfl, rfl, hS212, (Or.inr (⟨(by (try rw [w120]); first | done | omega), (by (try rw [w120]); (try rw [c405]); first | done | omega), (by (try rw [w120]); (try rw [c408]); first | done | omega), (by (try rw [w120]); (try rw [c410]); first | done | omega), trivial⟩)), trivial⟩
            · skip
              exfalso; omega
          · skip
            obtain ⟨v426, c427⟩ : ∃ v, I144 a0 9 = v := ⟨_, rfl⟩
            have b428 := iv15_9 hS152.1 ta0 c427
            rw [c427] at p169
            obtain ⟨v429, c430⟩ : ∃ v, I144 a0 13 = v := ⟨_, rfl⟩
            rw [c430] at p170
            obtain ⟨v431, c432⟩ : ∃ v, I144 a0 14 = v := ⟨_, rfl⟩
            rw [c432] at p171
            replace hF := hF.pos (by omega)
            replace hP := hP.pos (by omega)
            refine tr_istore_n dX12_readEvent_57 (by decide) (by decide) ?_
            refine tr_iload_n dX12_readEvent_58 rfl ?_
            refine q_iconst dX12_readEvent_59 (by decide) ?_
            intro v433 h434
            refine q_icmp_ne 69 dX12_readEvent_60 (by decide) (fun h435 => ?_) (fun h435 => ?_)
            · skip
              refine tr_aload_n dX12_readEvent_69 rfl ?_
              refine tr_ldcwS dX12_readEvent_70 ld12_272 ?_
              refine tr_iload_n dX12_readEvent_73 rfl ?_
              refine q_iconst dX12_readEvent_74 (by decide) ?_
              intro v436 h437
              refine q_iaddE dX12_readEvent_75 (by intros; omega) ?_
              intro v438 h439
              refine tr_aload_n dX12_readEvent_76 rfl ?_
              refine tr_getR dX12_readEvent_77 fl12_188 (kR15 hS152.1 ta0) d2 ?_
              refine q_getI dX12_readEvent_80 fl12_192 (kR14 hS152.1 ta1) ((hS152.cell ta1 (by decide +kernel)).trans c30) ?_
              refine q_callVi hE (M' := mX12_readPart) (as := [_, _, _]) dX12_readEvent_83 lk12_249 inX12_readPart seX12_readPart myX12_readPart (by decide) ⟨by decide, by decide⟩ rfl (kR15 hS152.1 ta0) (Nat.le_of_ble_eq_true rfl) rfl rfl (by decide) (by decide) (k_X12_readPart hS152.1 ta0 (by decide)) ?_
              rintro v444 cn' K' N' I440 R441 L442 ⟨rfl, rfl, rfl, rfl, g443, p445, w446, -⟩
              have hS447 := hS152.tr g443 (by decide +kernel) (by decide +kernel)
              have c448 : I440 a1 2 = v37 := (g443.cell ta1 (by decide +kernel)).trans c153
              have b449 : 1 ≤ v444.toInt ∧ v444.toInt ≤ 240 := by omega
              clear p445
              have ov450 := w446.over (by rw [c427]; omega)
              obtain ⟨v451, c452⟩ : ∃ v, I440 a0 9 = v := ⟨_, rfl⟩
              have b453 := iv15_9 hS447.1 ta0 c452
              obtain ⟨v454, c455⟩ : ∃ v, I440 a0 13 = v := ⟨_, rfl⟩
              obtain ⟨v456, c457⟩ : ∃ v, I440 a0 14 = v := ⟨_, rfl⟩
              (try rw [c452] at ov450)
              (try rw [c455] at ov450)
              (try rw [c457] at ov450)
              (try rw [c427] at ov450)
              (try rw [c430] at ov450)
              (try rw [c432] at ov450)
              refine tr_istore dX12_readEvent_86 (by decide) (by decide) ?_
              refine tr_aload_n dX12_readEvent_88 rfl ?_
              refine q_getI dX12_readEvent_89 fl12_99 (kR15 hS447.1 ta0) c452 ?_
              refine q_iconst dX12_readEvent_92 (by decide) ?_
              intro v458 h459
              refine q_icmp_ne 97 dX12_readEvent_93 (by decide) (fun h460 => ?_) (fun h460 => ?_)
              · skip
                exfalso; omega
              · skip
                have eF := hF.eq
                have eP := hP.eq
                obtain ⟨v461, c462⟩ : ∃ v, I440 a0 10 = v := ⟨_, rfl⟩
                have b463 := iv15_10 hS447.1 ta0 c462
                obtain ⟨v464, c465⟩ : ∃ v, I440 a0 11 = v := ⟨_, rfl⟩
                obtain ⟨y466, c467⟩ : ∃ v, L442 a0 15 = v := ⟨_, rfl⟩
                obtain ⟨v468, c469⟩ : ∃ v, I440 a0 12 = v := ⟨_, rfl⟩
                obtain ⟨v470, c471⟩ : ∃ v, I440 a0 8 = v := ⟨_, rfl⟩
                have b472 := iv15_8 hS447.1 ta0 c471
                exact tr_vret hZ dX12_readEvent_96 rfl (by decide) (by decide) ⟨rfl, rfl, rfl, rfl, rfl, hS447, (Or.inr (⟨(by (try rw [w120]); first | done | omega), (by (try rw [w120]); (try rw [c452]); first | done | omega), (by (try rw [w120]); (try rw [c455]); first | done | omega), (by (try rw [w120]); (try rw [c457]); first | done | omega), trivial⟩)), trivial⟩
            · skip
              exfalso; omega
          · skip
            obtain ⟨v473, c474⟩ : ∃ v, I144 a0 9 = v := ⟨_, rfl⟩
            have b475 := iv15_9 hS152.1 ta0 c474
            rw [c474] at p175
            obtain ⟨v476, c477⟩ : ∃ v, I144 a0 13 = v := ⟨_, rfl⟩
            rw [c477] at p176
            obtain ⟨v478, c479⟩ : ∃ v, I144 a0 14 = v := ⟨_, rfl⟩
            rw [c479] at p177
            replace hF := hF.neg (by omega)
            replace hP := hP.neg (by omega)
            replace hF := hF.pos (by omega)
            replace hP := hP.pos (by omega)
            refine tr_istore_n dX12_readEvent_57 (by decide) (by decide) ?_
            refine tr_iload_n dX12_readEvent_58 rfl ?_
            refine q_iconst dX12_readEvent_59 (by decide) ?_
            intro v480 h481
            refine q_icmp_ne 69 dX12_readEvent_60 (by decide) (fun h482 => ?_) (fun h482 => ?_)
            · skip
              refine tr_aload_n dX12_readEvent_69 rfl ?_
              refine tr_ldcwS dX12_readEvent_70 ld12_272 ?_
              refine tr_iload_n dX12_readEvent_73 rfl ?_
              refine q_iconst dX12_readEvent_74 (by decide) ?_
              intro v483 h484
              refine q_iaddE dX12_readEvent_75 (by intros; omega) ?_
              intro v485 h486
              refine tr_aload_n dX12_readEvent_76 rfl ?_
              refine tr_getR dX12_readEvent_77 fl12_188 (kR15 hS152.1 ta0) d2 ?_
              refine q_getI dX12_readEvent_80 fl12_192 (kR14 hS152.1 ta1) ((hS152.cell ta1 (by decide +kernel)).trans c30) ?_
              refine q_callVi hE (M' := mX12_readPart) (as := [_, _, _]) dX12_readEvent_83 lk12_249 inX12_readPart seX12_readPart myX12_readPart (by decide) ⟨by decide, by decide⟩ rfl (kR15 hS152.1 ta0) (Nat.le_of_ble_eq_true rfl) rfl rfl (by decide) (by decide) (k_X12_readPart hS152.1 ta0 (by decide)) ?_
              rintro v491 cn' K' N' I487 R488 L489 ⟨rfl, rfl, rfl, rfl, g490, p492, w493, -⟩
              have hS494 := hS152.tr g490 (by decide +kernel) (by decide +kernel)
              have c495 : I487 a1 2 = v37 := (g490.cell ta1 (by decide +kernel)).trans c153
              have b496 : 1 ≤ v491.toInt ∧ v491.toInt ≤ 240 := by omega
              clear p492
              have ov497 := w493.over (by rw [c474]; omega)
              obtain ⟨v498, c499⟩ : ∃ v, I487 a0 9 = v := ⟨_, rfl⟩
              have b500 := iv15_9 hS494.1 ta0 c499
              obtain ⟨v501, c502⟩ : ∃ v, I487 a0 13 = v := ⟨_, rfl⟩
              obtain ⟨v503, c504⟩ : ∃ v, I487 a0 14 = v := ⟨_, rfl⟩
              (try rw [c499] at ov497)
              (try rw [c502] at ov497)
              (try rw [c504] at ov497)
              (try rw [c474] at ov497)
              (try rw [c477] at ov497)
              (try rw [c479] at ov497)
              refine tr_istore dX12_readEvent_86 (by decide) (by decide) ?_
              refine tr_aload_n dX12_readEvent_88 rfl ?_
              refine q_getI dX12_readEvent_89 fl12_99 (kR15 hS494.1 ta0) c499 ?_
              refine q_iconst dX12_readEvent_92 (by decide) ?_
              intro v505 h506
              refine q_icmp_ne 97 dX12_readEvent_93 (by decide) (fun h507 => ?_) (fun h507 => ?_)
              · skip
                exfalso; omega
              · skip
                have eF := hF.eq
                have eP := hP.eq
                obtain ⟨v508, c509⟩ : ∃ v, I487 a0 10 = v := ⟨_, rfl⟩
                have b510 := iv15_10 hS494.1 ta0 c509
                obtain ⟨v511, c512⟩ : ∃ v, I487 a0 11 = v := ⟨_, rfl⟩
                obtain ⟨y513, c514⟩ : ∃ v, L489 a0 15 = v := ⟨_, rfl⟩
                obtain ⟨v515, c516⟩ : ∃ v, I487 a0 12 = v := ⟨_, rfl⟩
                obtain ⟨v517, c518⟩ : ∃ v, I487 a0 8 = v := ⟨_, rfl⟩
                have b519 := iv15_8 hS494.1 ta0 c518
                exact tr_vret hZ dX12_readEvent_96 rfl (by decide) (by decide) ⟨rfl, rfl, rfl, rfl, rfl, hS494, (Or.inr (⟨(by (try rw [w120]); first | done | omega), (by (try rw [w120]); (try rw [c499]); first | done | omega), (by (try rw [w120]); (try rw [c502]); first | done | omega), (by (try rw [w120]); (try rw [c504]); first | done | omega), trivial⟩)), trivial⟩
            · skip
              exfalso; omega
        · skip
          exfalso; omega
    · skip
      obtain ⟨v520, c521⟩ : ∃ v, I69 a0 9 = v := ⟨_, rfl⟩
      have b522 := iv15_9 hS77.1 ta0 c521
      rw [c521] at p91
      obtain ⟨v523, c524⟩ : ∃ v, I69 a0 13 = v := ⟨_, rfl⟩
      rw [c524] at p92
      obtain ⟨v525, c526⟩ : ∃ v, I69 a0 14 = v := ⟨_, rfl⟩
      rw [c526] at p93
      replace hF := hF.pos (by omega)
      replace hP := hP.pos (by omega)
      refine tr_iload_n dX12_readEvent_13 rfl ?_
      refine q_iconst dX12_readEvent_14 (by decide) ?_
      intro v527 h528
      refine q_icmp_eq 23 dX12_readEvent_15 (by decide) (fun h529 => ?_) (fun h529 => ?_)
      · skip
        exfalso; omega
      · skip
        refine tr_iload_n dX12_readEvent_18 rfl ?_
        refine q_iconst dX12_readEvent_19 (by decide) ?_
        intro v530 h531
        refine q_icmp_ne 40 dX12_readEvent_20 (by decide) (fun h532 => ?_) (fun h532 => ?_)
        · skip
          refine q_bipush dX12_readEvent_40 (by decide +kernel) ?_
          intro v533 h534
          refine tr_istore_n dX12_readEvent_42 (by decide) (by decide) ?_
          refine tr_aload_n dX12_readEvent_43 rfl ?_
          refine q_iconst dX12_readEvent_44 (by decide) ?_
          intro v535 h536
          refine tr_aload_n dX12_readEvent_45 rfl ?_
          refine tr_getR dX12_readEvent_46 fl12_188 (kR15 hS77.1 ta0) d2 ?_
          refine q_getI dX12_readEvent_49 fl12_192 (kR14 hS77.1 ta1) ((hS77.cell ta1 (by decide +kernel)).trans c30) ?_
          refine q_iconst dX12_readEvent_52 (by decide) ?_
          intro v537 h538
          refine q_isubE dX12_readEvent_53 (by intros; omega) ?_
          intro v539 h540
          refine q_callVi hE (M' := mX12_readWhole) (as := [_, _]) dX12_readEvent_54 lk12_161 inX12_readWhole seX12_readWhole myX12_readWhole (by decide) ⟨by decide, by decide⟩ rfl (kR15 hS77.1 ta0) (Nat.le_of_ble_eq_true rfl) rfl rfl (by decide) (by decide) (k_X12_readWhole hS77.1 ta0) ?_
          rintro v545 cn' K' N' I541 R542 L543 ⟨rfl, rfl, rfl, rfl, g544, p546, w547, -⟩
          have hS548 := hS77.tr g544 (by decide +kernel) (by decide +kernel)
          have c549 : I541 a1 2 = v37 := (g544.cell ta1 (by decide +kernel)).trans c78
          have b550 : 0 ≤ v545.toInt ∧ v545.toInt ≤ 239 := by omega
          clear p546
          have ov551 := w547.over (by rw [c521]; omega)
          obtain ⟨v552, c553⟩ : ∃ v, I541 a0 9 = v := ⟨_, rfl⟩
          have b554 := iv15_9 hS548.1 ta0 c553
          obtain ⟨v555, c556⟩ : ∃ v, I541 a0 13 = v := ⟨_, rfl⟩
          obtain ⟨v557, c558⟩ : ∃ v, I541 a0 14 = v := ⟨_, rfl⟩
          (try rw [c553] at ov551)
          (try rw [c556] at ov551)
          (try rw [c558] at ov551)
          (try rw [c521] at ov551)
          (try rw [c524] at ov551)
          (try rw [c526] at ov551)
          refine tr_istore_n dX12_readEvent_57 (by decide) (by decide) ?_
          refine tr_iload_n dX12_readEvent_58 rfl ?_
          refine q_iconst dX12_readEvent_59 (by decide) ?_
          intro v559 h560
          refine q_icmp_ne 69 dX12_readEvent_60 (by decide) (fun h561 => ?_) (fun h561 => ?_)
          · skip
            refine tr_aload_n dX12_readEvent_69 rfl ?_
            refine tr_ldcwS dX12_readEvent_70 ld12_272 ?_
            refine tr_iload_n dX12_readEvent_73 rfl ?_
            refine q_iconst dX12_readEvent_74 (by decide) ?_
            intro v562 h563
            refine q_iaddE dX12_readEvent_75 (by intros; omega) ?_
            intro v564 h565
            refine tr_aload_n dX12_readEvent_76 rfl ?_
            refine tr_getR dX12_readEvent_77 fl12_188 (kR15 hS548.1 ta0) d2 ?_
            refine q_getI dX12_readEvent_80 fl12_192 (kR14 hS548.1 ta1) ((hS548.cell ta1 (by decide +kernel)).trans c30) ?_
            refine q_callVi hE (M' := mX12_readPart) (as := [_, _, _]) dX12_readEvent_83 lk12_249 inX12_readPart seX12_readPart myX12_readPart (by decide) ⟨by decide, by decide⟩ rfl (kR15 hS548.1 ta0) (Nat.le_of_ble_eq_true rfl) rfl rfl (by decide) (by decide) (k_X12_readPart hS548.1 ta0 (by decide)) ?_
            rintro v570 cn' K' N' I566 R567 L568 ⟨rfl, rfl, rfl, rfl, g569, p571, w572, -⟩
            have hS573 := hS548.tr g569 (by decide +kernel) (by decide +kernel)
            have c574 : I566 a1 2 = v37 := (g569.cell ta1 (by decide +kernel)).trans c549
            have b575 : 1 ≤ v570.toInt ∧ v570.toInt ≤ 240 := by omega
            clear p571
            have ov576 := w572.over (by rw [c553]; omega)
            obtain ⟨v577, c578⟩ : ∃ v, I566 a0 9 = v := ⟨_, rfl⟩
            have b579 := iv15_9 hS573.1 ta0 c578
            obtain ⟨v580, c581⟩ : ∃ v, I566 a0 13 = v := ⟨_, rfl⟩
            obtain ⟨v582, c583⟩ : ∃ v, I566 a0 14 = v := ⟨_, rfl⟩
            (try rw [c578] at ov576)
            (try rw [c581] at ov576)
            (try rw [c583] at ov576)
            (try rw [c553] at ov576)
            (try rw [c556] at ov576)
            (try rw [c558] at ov576)
            refine tr_istore dX12_readEvent_86 (by decide) (by decide) ?_
            refine tr_aload_n dX12_readEvent_88 rfl ?_
            refine q_getI dX12_readEvent_89 fl12_99 (kR15 hS573.1 ta0) c578 ?_
            refine q_iconst dX12_readEvent_92 (by decide) ?_
            intro v584 h585
            refine q_icmp_ne 97 dX12_readEvent_93 (by decide) (fun h586 => ?_) (fun h586 => ?_)
            · skip
              exfalso; omega
            · skip
              have eF := hF.eq
              have eP := hP.eq
              obtain ⟨v587, c588⟩ : ∃ v, I566 a0 10 = v := ⟨_, rfl⟩
              have b589 := iv15_10 hS573.1 ta0 c588
              obtain ⟨v590, c591⟩ : ∃ v, I566 a0 11 = v := ⟨_, rfl⟩
              obtain ⟨y592, c593⟩ : ∃ v, L568 a0 15 = v := ⟨_, rfl⟩
              obtain ⟨v594, c595⟩ : ∃ v, I566 a0 12 = v := ⟨_, rfl⟩
              obtain ⟨v596, c597⟩ : ∃ v, I566 a0 8 = v := ⟨_, rfl⟩
              have b598 := iv15_8 hS573.1 ta0 c597
              exact tr_vret hZ dX12_readEvent_96 rfl (by decide) (by decide) ⟨rfl, rfl, rfl, rfl, rfl, hS573, (Or.inr (⟨(by first | done | omega), (by (try rw [c578]); first | done | omega), (by (try rw [c581]); first | done | omega), (by (try rw [c583]); first | done | omega), trivial⟩)), trivial⟩
          · skip
            exfalso; omega
        · skip
          exfalso; omega
    · skip
      obtain ⟨v599, c600⟩ : ∃ v, I69 a0 9 = v := ⟨_, rfl⟩
      have b601 := iv15_9 hS77.1 ta0 c600
      rw [c600] at p96
      obtain ⟨v602, c603⟩ : ∃ v, I69 a0 13 = v := ⟨_, rfl⟩
      rw [c603] at p97
      obtain ⟨v604, c605⟩ : ∃ v, I69 a0 14 = v := ⟨_, rfl⟩
      rw [c605] at p98
      replace hF := hF.neg (by omega)
      replace hP := hP.neg (by omega)
      replace hF := hF.pos (by omega)
      replace hP := hP.pos (by omega)
      refine tr_iload_n dX12_readEvent_13 rfl ?_
      refine q_iconst dX12_readEvent_14 (by decide) ?_
      intro v606 h607
      refine q_icmp_eq 23 dX12_readEvent_15 (by decide) (fun h608 => ?_) (fun h608 => ?_)
      · skip
        exfalso; omega
      · skip
        refine tr_iload_n dX12_readEvent_18 rfl ?_
        refine q_iconst dX12_readEvent_19 (by decide) ?_
        intro v609 h610
        refine q_icmp_ne 40 dX12_readEvent_20 (by decide) (fun h611 => ?_) (fun h611 => ?_)
        · skip
          refine q_bipush dX12_readEvent_40 (by decide +kernel) ?_
          intro v612 h613
          refine tr_istore_n dX12_readEvent_42 (by decide) (by decide) ?_
          refine tr_aload_n dX12_readEvent_43 rfl ?_
          refine q_iconst dX12_readEvent_44 (by decide) ?_
          intro v614 h615
          refine tr_aload_n dX12_readEvent_45 rfl ?_
          refine tr_getR dX12_readEvent_46 fl12_188 (kR15 hS77.1 ta0) d2 ?_
          refine q_getI dX12_readEvent_49 fl12_192 (kR14 hS77.1 ta1) ((hS77.cell ta1 (by decide +kernel)).trans c30) ?_
          refine q_iconst dX12_readEvent_52 (by decide) ?_
          intro v616 h617
          refine q_isubE dX12_readEvent_53 (by intros; omega) ?_
          intro v618 h619
          refine q_callVi hE (M' := mX12_readWhole) (as := [_, _]) dX12_readEvent_54 lk12_161 inX12_readWhole seX12_readWhole myX12_readWhole (by decide) ⟨by decide, by decide⟩ rfl (kR15 hS77.1 ta0) (Nat.le_of_ble_eq_true rfl) rfl rfl (by decide) (by decide) (k_X12_readWhole hS77.1 ta0) ?_
          rintro v624 cn' K' N' I620 R621 L622 ⟨rfl, rfl, rfl, rfl, g623, p625, w626, -⟩
          have hS627 := hS77.tr g623 (by decide +kernel) (by decide +kernel)
          have c628 : I620 a1 2 = v37 := (g623.cell ta1 (by decide +kernel)).trans c78
          have b629 : 0 ≤ v624.toInt ∧ v624.toInt ≤ 0 := by omega
          clear p625
          have ov630 := w626.over (by rw [c600]; omega)
          obtain ⟨v631, c632⟩ : ∃ v, I620 a0 9 = v := ⟨_, rfl⟩
          have b633 := iv15_9 hS627.1 ta0 c632
          obtain ⟨v634, c635⟩ : ∃ v, I620 a0 13 = v := ⟨_, rfl⟩
          obtain ⟨v636, c637⟩ : ∃ v, I620 a0 14 = v := ⟨_, rfl⟩
          (try rw [c632] at ov630)
          (try rw [c635] at ov630)
          (try rw [c637] at ov630)
          (try rw [c600] at ov630)
          (try rw [c603] at ov630)
          (try rw [c605] at ov630)
          refine tr_istore_n dX12_readEvent_57 (by decide) (by decide) ?_
          refine tr_iload_n dX12_readEvent_58 rfl ?_
          refine q_iconst dX12_readEvent_59 (by decide) ?_
          intro v638 h639
          refine q_icmp_ne 69 dX12_readEvent_60 (by decide) (fun h640 => ?_) (fun h640 => ?_)
          · skip
            refine tr_aload_n dX12_readEvent_69 rfl ?_
            refine tr_ldcwS dX12_readEvent_70 ld12_272 ?_
            refine tr_iload_n dX12_readEvent_73 rfl ?_
            refine q_iconst dX12_readEvent_74 (by decide) ?_
            intro v641 h642
            refine q_iaddE dX12_readEvent_75 (by intros; omega) ?_
            intro v643 h644
            refine tr_aload_n dX12_readEvent_76 rfl ?_
            refine tr_getR dX12_readEvent_77 fl12_188 (kR15 hS627.1 ta0) d2 ?_
            refine q_getI dX12_readEvent_80 fl12_192 (kR14 hS627.1 ta1) ((hS627.cell ta1 (by decide +kernel)).trans c30) ?_
            refine q_callVi hE (M' := mX12_readPart) (as := [_, _, _]) dX12_readEvent_83 lk12_249 inX12_readPart seX12_readPart myX12_readPart (by decide) ⟨by decide, by decide⟩ rfl (kR15 hS627.1 ta0) (Nat.le_of_ble_eq_true rfl) rfl rfl (by decide) (by decide) (k_X12_readPart hS627.1 ta0 (by decide)) ?_
            rintro v649 cn' K' N' I645 R646 L647 ⟨rfl, rfl, rfl, rfl, g648, p650, w651, -⟩
            have hS652 := hS627.tr g648 (by decide +kernel) (by decide +kernel)
            have c653 : I645 a1 2 = v37 := (g648.cell ta1 (by decide +kernel)).trans c628
            have b654 : 1 ≤ v649.toInt ∧ v649.toInt ≤ 1 := by omega
            clear p650
            have ov655 := w651.over (by rw [c632]; omega)
            obtain ⟨v656, c657⟩ : ∃ v, I645 a0 9 = v := ⟨_, rfl⟩
            have b658 := iv15_9 hS652.1 ta0 c657
            obtain ⟨v659, c660⟩ : ∃ v, I645 a0 13 = v := ⟨_, rfl⟩
            obtain ⟨v661, c662⟩ : ∃ v, I645 a0 14 = v := ⟨_, rfl⟩
            (try rw [c657] at ov655)
            (try rw [c660] at ov655)
            (try rw [c662] at ov655)
            (try rw [c632] at ov655)
            (try rw [c635] at ov655)
            (try rw [c637] at ov655)
            refine tr_istore dX12_readEvent_86 (by decide) (by decide) ?_
            refine tr_aload_n dX12_readEvent_88 rfl ?_
            refine q_getI dX12_readEvent_89 fl12_99 (kR15 hS652.1 ta0) c657 ?_
            refine q_iconst dX12_readEvent_92 (by decide) ?_
            intro v663 h664
            refine q_icmp_ne 97 dX12_readEvent_93 (by decide) (fun h665 => ?_) (fun h665 => ?_)
            · skip
              exfalso; omega
            · skip
              have eF := hF.eq
              have eP := hP.eq
              obtain ⟨v666, c667⟩ : ∃ v, I645 a0 10 = v := ⟨_, rfl⟩
              have b668 := iv15_10 hS652.1 ta0 c667
              obtain ⟨v669, c670⟩ : ∃ v, I645 a0 11 = v := ⟨_, rfl⟩
              obtain ⟨y671, c672⟩ : ∃ v, L647 a0 15 = v := ⟨_, rfl⟩
              obtain ⟨v673, c674⟩ : ∃ v, I645 a0 12 = v := ⟨_, rfl⟩
              obtain ⟨v675, c676⟩ : ∃ v, I645 a0 8 = v := ⟨_, rfl⟩
              have b677 := iv15_8 hS652.1 ta0 c676
              exact tr_vret hZ dX12_readEvent_96 rfl (by decide) (by decide) ⟨rfl, rfl, rfl, rfl, rfl, hS652, (Or.inr (⟨(by first | done | omega), (by (try rw [c657]); first | done | omega), (by (try rw [c660]); first | done | omega), (by (try rw [c662]); first | done | omega), trivial⟩)), trivial⟩
          · skip
            exfalso; omega
        · skip
          exfalso; omega
  · skip
    refine tr_aload_n dX12_readEvent_0 rfl ?_
    refine tr_aload_n dX12_readEvent_1 rfl ?_
    refine tr_getR dX12_readEvent_2 fl12_188 (kR15 hS0.1 ta0) d2 ?_
    refine q_getI dX12_readEvent_5 fl12_265 (kR14 hS0.1 ta1) c38 ?_
    refine q_bipush dX12_readEvent_8 (by decide +kernel) ?_
    intro v678 h679
    refine q_callVv hE (M' := mX12_begins) (as := [_, _]) dX12_readEvent_10 lk12_268 inX12_begins seX12_begins myX12_begins (by decide) ⟨by decide, by decide⟩ rfl (kR15 hS0.1 ta0) (Nat.le_of_ble_eq_true rfl) rfl rfl (by decide) (by decide) (fk_X12_begins hS0.1 (gB) (gs) (gQ) ta0 (TxA.kp hT hS0 ta0 rfl rfl rfl (by decide +kernel) (by decide +kernel)) (by (try rw [c4]); first | done | omega) (by (try rw [c4]); first | done | omega) (by (try rw [c9]); first | done | omega) (by (try rw [c13]); first | done | omega) (by (try rw [c16]); first | done | assumption) (by (try rw [c19]); first | done | assumption) (by (try rw [c22]); first | done | assumption) (by (try rw [c26]); first | done | omega) (fun q0 z0 => by obtain rfl := Option.some.inj ((d2).symm.trans z0); (try rw [c30]); first | done | omega) (by first | done | omega) ⟨_, d2⟩) ?_
    rintro cn' K' N' I680 R681 L682 ⟨rfl, rfl, rfl, rfl, g683, dj686, -⟩
    have hM687 : NmM I680 R0 L0 a1 gQ := NmM.kpS hM0 g683 hS0.1 ta1 (by decide +kernel) (by decide +kernel)
    have hS688 := hS0.tr g683 (by decide +kernel) (by decide +kernel)
    have c689 : I680 a1 2 = v37 := (g683.cell ta1 (by decide +kernel)).trans c38
    rcases dj686 with ⟨p690, p691, p692, p693, p694, p695, p696, p697, p698, p699, gl700, -⟩ | ⟨p701, p702, p703, p704, -⟩ | ⟨p705, p706, p707, p708, p709, -⟩
    · skip
      have hL710 := hL0.tr gl700 (by decide +kernel)
      have hM711 : NmM I680 R0 L682 a1 gQ := NmM.kpL hM687 gl700 hS688.1 ta1 (by decide +kernel)
      obtain ⟨v712, c713⟩ : ∃ v, I680 a0 13 = v := ⟨_, rfl⟩
      rw [c713] at p692
      rw [c65] at p692
      obtain ⟨v714, c715⟩ : ∃ v, I680 a0 9 = v := ⟨_, rfl⟩
      have b716 := iv15_9 hS688.1 ta0 c715
      rw [c715] at p693
      rw [c715] at p694
      obtain ⟨v717, c718⟩ : ∃ v, I680 a0 10 = v := ⟨_, rfl⟩
      have b719 := iv15_10 hS688.1 ta0 c718
      rw [c718] at p695
      obtain ⟨v720, c721⟩ : ∃ v, I680 a0 11 = v := ⟨_, rfl⟩
      rw [c721] at p696
      obtain ⟨y722, c723⟩ : ∃ v, L682 a0 15 = v := ⟨_, rfl⟩
      rw [c723] at p697
      obtain ⟨v724, c725⟩ : ∃ v, I680 a0 12 = v := ⟨_, rfl⟩
      rw [c725] at p698
      obtain ⟨v726, c727⟩ : ∃ v, I680 a0 8 = v := ⟨_, rfl⟩
      have b728 := iv15_8 hS688.1 ta0 c727
      rw [c727] at p699
      replace hF := hF.neg (by omega)
      replace hP := hP.neg (by omega)
      replace hF := hF.neg (by omega)
      replace hP := hP.neg (by omega)
      obtain ⟨w729, w730, w731, w732, w733, w734, w735, w736, w737, w738, w739, w740⟩ := lnl_e (B := gB) (Q := gQ) (s := gs) (by omega) (by omega)
      replace hF := hF.to w729 (evF_c0 (B := gB) (Q := gQ) (k := srt gB gs) (s := (tkN gB gs)) (by omega) (by omega))
      replace hP := hP.to w730 (evP_c0 (B := gB) (Q := gQ) (k := srt gB gs) (s := (tkN gB gs)) (by omega) (by omega))
      refine tr_iload_n dX12_readEvent_13 rfl ?_
      refine q_iconst dX12_readEvent_14 (by decide) ?_
      intro v741 h742
      refine q_icmp_eq 23 dX12_readEvent_15 (by decide) (fun h743 => ?_) (fun h743 => ?_)
      · skip
        exfalso; omega
      · skip
        refine tr_iload_n dX12_readEvent_18 rfl ?_
        refine q_iconst dX12_readEvent_19 (by decide) ?_
        intro v744 h745
        refine q_icmp_ne 40 dX12_readEvent_20 (by decide) (fun h746 => ?_) (fun h746 => ?_)
        · skip
          refine q_bipush dX12_readEvent_40 (by decide +kernel) ?_
          intro v747 h748
          refine tr_istore_n dX12_readEvent_42 (by decide) (by decide) ?_
          refine tr_aload_n dX12_readEvent_43 rfl ?_
          refine q_iconst dX12_readEvent_44 (by decide) ?_
          intro v749 h750
          refine tr_aload_n dX12_readEvent_45 rfl ?_
          refine tr_getR dX12_readEvent_46 fl12_188 (kR15 hS688.1 ta0) d2 ?_
          refine q_getI dX12_readEvent_49 fl12_192 (kR14 hS688.1 ta1) ((hS688.cell ta1 (by decide +kernel)).trans c30) ?_
          refine q_iconst dX12_readEvent_52 (by decide) ?_
          intro v751 h752
          refine q_isubE dX12_readEvent_53 (by intros; omega) ?_
          intro v753 h754
          refine q_callVi hE (M' := mX12_readWhole) (as := [_, _]) dX12_readEvent_54 lk12_161 inX12_readWhole seX12_readWhole myX12_readWhole (by decide) ⟨by decide, by decide⟩ rfl (kR15 hS688.1 ta0) (Nat.le_of_ble_eq_true rfl) rfl rfl (by decide) (by decide) (fk_X12_readWhole hS688.1 (gB) ((tkN gB gs)) ta0 (TxA.kp hT hS688 ta0 rfl rfl rfl (by decide +kernel) (by decide +kernel)) (by (try rw [c715]); first | done | omega) (by (try rw [c715]); first | done | omega) (by (try rw [c718]); first | done | omega) (by (try rw [c721]); first | done | omega) (by (try rw [c723]); first | done | assumption) (by (try rw [c725]); first | done | assumption) (by (try rw [c727]); first | done | assumption) (by (try rw [((hS688.cell ta0 (by decide +kernel)).trans c26)]); first | done | omega)) ?_
          rintro v760 cn' K' N' I755 R756 L757 ⟨rfl, rfl, rfl, rfl, g758, dj761, -⟩
          have hM762 : NmM I755 R0 L682 a1 gQ := NmM.kpS hM711 g758 hS688.1 ta1 (by decide +kernel) (by decide +kernel)
          have hS763 := hS688.tr g758 (by decide +kernel) (by decide +kernel)
          have c764 : I755 a1 2 = v37 := (g758.cell ta1 (by decide +kernel)).trans c689
          rcases dj761 with ⟨p765, p766, p767, p768, p769, p770, p771, p772, p773, p774, p775, p776, gl777, -⟩ | ⟨p778, p779, p780, p781, p782, -⟩ | ⟨p783, p784, p785, p786, p787, p788, -⟩
          · skip
            have hL789 := hL710.tr gl777 (by decide +kernel)
            have hM790 : NmM I755 R0 L757 a1 gQ := NmM.kpL hM762 gl777 hS763.1 ta1 (by decide +kernel)
            obtain ⟨v791, c792⟩ : ∃ v, I755 a0 13 = v := ⟨_, rfl⟩
            rw [c792] at p769
            rw [c713] at p769
            obtain ⟨v793, c794⟩ : ∃ v, I755 a0 9 = v := ⟨_, rfl⟩
            have b795 := iv15_9 hS763.1 ta0 c794
            rw [c794] at p770
            rw [c794] at p771
            obtain ⟨v796, c797⟩ : ∃ v, I755 a0 10 = v := ⟨_, rfl⟩
            have b798 := iv15_10 hS763.1 ta0 c797
            rw [c797] at p772
            obtain ⟨v799, c800⟩ : ∃ v, I755 a0 11 = v := ⟨_, rfl⟩
            rw [c800] at p773
            obtain ⟨y801, c802⟩ : ∃ v, L757 a0 15 = v := ⟨_, rfl⟩
            rw [c802] at p774
            obtain ⟨v803, c804⟩ : ∃ v, I755 a0 12 = v := ⟨_, rfl⟩
            rw [c804] at p775
            obtain ⟨v805, c806⟩ : ∃ v, I755 a0 8 = v := ⟨_, rfl⟩
            have b807 := iv15_8 hS763.1 ta0 c806
            rw [c806] at p776
            replace hF := hF.neg (by omega)
            replace hP := hP.neg (by omega)
            replace hF := hF.neg (by omega)
            replace hP := hP.neg (by omega)
            refine tr_istore_n dX12_readEvent_57 (by decide) (by decide) ?_
            refine tr_iload_n dX12_readEvent_58 rfl ?_
            refine q_iconst dX12_readEvent_59 (by decide) ?_
            intro v808 h809
            refine q_icmp_ne 69 dX12_readEvent_60 (by decide) (fun h810 => ?_) (fun h810 => ?_)
            · skip
              refine tr_aload_n dX12_readEvent_69 rfl ?_
              refine tr_ldcwS dX12_readEvent_70 ld12_272 ?_
              refine tr_iload_n dX12_readEvent_73 rfl ?_
              refine q_iconst dX12_readEvent_74 (by decide) ?_
              intro v811 h812
              refine q_iaddE dX12_readEvent_75 (by intros; omega) ?_
              intro v813 h814
              refine tr_aload_n dX12_readEvent_76 rfl ?_
              refine tr_getR dX12_readEvent_77 fl12_188 (kR15 hS763.1 ta0) d2 ?_
              refine q_getI dX12_readEvent_80 fl12_192 (kR14 hS763.1 ta1) ((hS763.cell ta1 (by decide +kernel)).trans c30) ?_
              refine q_callVi hE (M' := mX12_readPart) (as := [_, _, _]) dX12_readEvent_83 lk12_249 inX12_readPart seX12_readPart myX12_readPart (by decide) ⟨by decide, by decide⟩ rfl (kR15 hS763.1 ta0) (Nat.le_of_ble_eq_true rfl) rfl rfl (by decide) (by decide) (fk_X12_readPart hS763.1 (gB) ((tkN gB (tkN gB gs))) ta0 (by decide) (TxA.kp hT hS763 ta0 rfl rfl rfl (by decide +kernel) (by decide +kernel)) (by (try rw [c794]); first | done | omega) (by (try rw [c794]); first | done | omega) (by (try rw [c797]); first | done | omega) (by (try rw [c800]); first | done | omega) (by (try rw [c802]); first | done | assumption) (by (try rw [c804]); first | done | assumption) (by (try rw [c806]); first | done | assumption) (by (try rw [((hS763.cell ta0 (by decide +kernel)).trans c26)]); first | done | omega)) ?_
              rintro v820 cn' K' N' I815 R816 L817 ⟨rfl, rfl, rfl, rfl, g818, dj821, -⟩
              (try rw [pk_25] at dj821)
              have hM822 : NmM I815 R0 L757 a1 gQ := NmM.kpS hM790 g818 hS763.1 ta1 (by decide +kernel) (by decide +kernel)
              have hS823 := hS763.tr g818 (by decide +kernel) (by decide +kernel)
              have c824 : I815 a1 2 = v37 := (g818.cell ta1 (by decide +kernel)).trans c764
              rcases dj821 with ⟨p825, p826, p827, p828, p829, p830, p831, p832, p833, p834, p835, p836, p837, p838, gl839, -⟩ | ⟨p840, p841, p842, p843, p844, -⟩ | ⟨p845, p846, p847, p848, p849, p850, p851, -⟩ | ⟨p852, p853, p854, p855, p856, p857, p858, p859, -⟩
              · skip
                have hL860 := hL789.tr gl839 (by decide +kernel)
                have hM861 : NmM I815 R0 L817 a1 gQ := NmM.kpL hM822 gl839 hS823.1 ta1 (by decide +kernel)
                obtain ⟨v862, c863⟩ : ∃ v, I815 a0 13 = v := ⟨_, rfl⟩
                rw [c863] at p831
                rw [c792] at p831
                obtain ⟨v864, c865⟩ : ∃ v, I815 a0 9 = v := ⟨_, rfl⟩
                have b866 := iv15_9 hS823.1 ta0 c865
                rw [c865] at p832
                rw [c865] at p833
                obtain ⟨v867, c868⟩ : ∃ v, I815 a0 10 = v := ⟨_, rfl⟩
                have b869 := iv15_10 hS823.1 ta0 c868
                rw [c868] at p834
                obtain ⟨v870, c871⟩ : ∃ v, I815 a0 11 = v := ⟨_, rfl⟩
                rw [c871] at p835
                obtain ⟨y872, c873⟩ : ∃ v, L817 a0 15 = v := ⟨_, rfl⟩
                rw [c873] at p836
                obtain ⟨v874, c875⟩ : ∃ v, I815 a0 12 = v := ⟨_, rfl⟩
                rw [c875] at p837
                obtain ⟨v876, c877⟩ : ∃ v, I815 a0 8 = v := ⟨_, rfl⟩
                have b878 := iv15_8 hS823.1 ta0 c877
                rw [c877] at p838
                replace hF := hF.neg (by omega)
                replace hP := hP.neg (by omega)
                replace hF := hF.neg (by omega)
                replace hP := hP.neg (by omega)
                replace hF := hF.neg (by omega)
                replace hP := hP.neg (by omega)
                refine tr_istore dX12_readEvent_86 (by decide) (by decide) ?_
                refine tr_aload_n dX12_readEvent_88 rfl ?_
                refine q_getI dX12_readEvent_89 fl12_99 (kR15 hS823.1 ta0) c865 ?_
                refine q_iconst dX12_readEvent_92 (by decide) ?_
                intro v879 h880
                refine q_icmp_ne 97 dX12_readEvent_93 (by decide) (fun h881 => ?_) (fun h881 => ?_)
                · skip
                  refine tr_aload_n dX12_readEvent_97 rfl ?_
                  refine tr_getR dX12_readEvent_98 fl12_188 (kR15 hS823.1 ta0) d2 ?_
                  refine q_getI dX12_readEvent_101 fl12_265 (kR14 hS823.1 ta1) c824 ?_
                  refine tr_istore dX12_readEvent_104 (by decide) (by decide) ?_
                  refine tr_aload_n dX12_readEvent_106 rfl ?_
                  refine tr_getR dX12_readEvent_107 fl12_188 (kR15 hS823.1 ta0) d2 ?_
                  obtain ⟨a882, d883, ta882⟩ := rf14_11 hW0 ta1
                  refine tr_getR dX12_readEvent_110 fl12_274 (kR14 hS823.1 ta1) d883 ?_
                  refine tr_iload dX12_readEvent_113 rfl ?_
                  refine tr_iload_n dX12_readEvent_115 rfl ?_
                  refine q_iastX dX12_readEvent_116 (kR54 hS823.1 ta882) (ti_in (nR54 hS823.1 ta882) (by omega) (by omega)) hS823 ta882 (by rfl) (hS823.1.putK (m := a1) ta1 d883 (by rw [c824]; exact Int.le_of_eq (ti_nat (by omega)).symm)) ?_
                  intro I888 hS889 e890 f891
                  have c892 : I888 a1 2 = v37 := (f891 _ _ (fun q => by have z := ta1; rw [q.1, ta882] at z; exact absurd z (by decide))).trans c824
                  have c893 : I888 a0 13 = v862 := (f891 _ _ (fun q => by have z := ta0; rw [q.1, ta882] at z; exact absurd z (by decide))).trans c863
                  have c894 : I888 a0 9 = v864 := (f891 _ _ (fun q => by have z := ta0; rw [q.1, ta882] at z; exact absurd z (by decide))).trans c865
                  have c895 : I888 a0 10 = v867 := (f891 _ _ (fun q => by have z := ta0; rw [q.1, ta882] at z; exact absurd z (by decide))).trans c868
                  have c896 : I888 a0 11 = v870 := (f891 _ _ (fun q => by have z := ta0; rw [q.1, ta882] at z; exact absurd z (by decide))).trans c871
                  have c897 : I888 a0 12 = v874 := (f891 _ _ (fun q => by have z := ta0; rw [q.1, ta882] at z; exact absurd z (by decide))).trans c875
                  have c898 : I888 a0 8 = v876 := (f891 _ _ (fun q => by have z := ta0; rw [q.1, ta882] at z; exact absurd z (by decide))).trans c877
                  have hM899 : NmM I888 R0 L817 a1 gQ := NmM.kp1 hM861 f891 ta882 rfl rfl hS823.1 ta1
                  refine tr_aload_n dX12_readEvent_117 rfl ?_
                  refine tr_getR dX12_readEvent_118 fl12_188 (kR15 hS889.1 ta0) d2 ?_
                  obtain ⟨a900, d901, ta900⟩ := rf14_12 hW0 ta1
                  refine tr_getR dX12_readEvent_121 fl12_277 (kR14 hS889.1 ta1) d901 ?_
                  refine tr_iload dX12_readEvent_124 rfl ?_
                  refine tr_iload_n dX12_readEvent_126 rfl ?_
                  refine q_iastX dX12_readEvent_127 (kR55 hS889.1 ta900) (ti_in (nR55 hS889.1 ta900) (by omega) (by omega)) hS889 ta900 (by rfl) (hS889.1.putH (m := a1) ta1 d901 (by rw [c892]; exact Int.le_of_eq (ti_nat (by omega)).symm) (by omega)) ?_
                  intro I906 hS907 e908 f909
                  have c910 : I906 a1 2 = v37 := (f909 _ _ (fun q => by have z := ta1; rw [q.1, ta900] at z; exact absurd z (by decide))).trans c892
                  have c911 : I906 a0 13 = v862 := (f909 _ _ (fun q => by have z := ta0; rw [q.1, ta900] at z; exact absurd z (by decide))).trans c893
                  have c912 : I906 a0 9 = v864 := (f909 _ _ (fun q => by have z := ta0; rw [q.1, ta900] at z; exact absurd z (by decide))).trans c894
                  have c913 : I906 a0 10 = v867 := (f909 _ _ (fun q => by have z := ta0; rw [q.1, ta900] at z; exact absurd z (by decide))).trans c895
                  have c914 : I906 a0 11 = v870 := (f909 _ _ (fun q => by have z := ta0; rw [q.1, ta900] at z; exact absurd z (by decide))).trans c896
                  have c915 : I906 a0 12 = v874 := (f909 _ _ (fun q => by have z := ta0; rw [q.1, ta900] at z; exact absurd z (by decide))).trans c897
                  have c916 : I906 a0 8 = v876 := (f909 _ _ (fun q => by have z := ta0; rw [q.1, ta900] at z; exact absurd z (by decide))).trans c898
                  have c917 : I906 a882 v37.toNatClampNeg = x1 := (f909 _ _ (fun q => by have z := ta882; rw [q.1, ta900] at z; exact absurd z (by decide))).trans e890
                  have hM918 : NmM I906 R0 L817 a1 gQ := NmM.kp1 hM899 f909 ta900 rfl rfl hS889.1 ta1
                  refine tr_aload_n dX12_readEvent_128 rfl ?_
                  refine tr_getR dX12_readEvent_129 fl12_188 (kR15 hS907.1 ta0) d2 ?_
                  obtain ⟨a919, d920, ta919⟩ := rf14_13 hW0 ta1
                  refine tr_getR dX12_readEvent_132 fl12_280 (kR14 hS907.1 ta1) d920 ?_
                  refine tr_iload dX12_readEvent_135 rfl ?_
                  refine tr_iload_n dX12_readEvent_137 rfl ?_
                  refine q_iast dX12_readEvent_138 (kR56 hS907.1 ta919) (ti_in (nR56 hS907.1 ta919) (by omega) (by omega)) hS907 ta919 (by show (0 : Int) ≤ v760.toInt ∧ v760.toInt ≤ (240 : Int); omega) rfl (by rfl) ?_
                  intro I921 hS922 e924 f923
                  have c925 : I921 a1 2 = v37 := (f923 _ _ (fun q => by have z := ta1; rw [q.1, ta919] at z; exact absurd z (by decide))).trans c910
                  have c926 : I921 a0 13 = v862 := (f923 _ _ (fun q => by have z := ta0; rw [q.1, ta919] at z; exact absurd z (by decide))).trans c911
                  have c927 : I921 a0 9 = v864 := (f923 _ _ (fun q => by have z := ta0; rw [q.1, ta919] at z; exact absurd z (by decide))).trans c912
                  have c928 : I921 a0 10 = v867 := (f923 _ _ (fun q => by have z := ta0; rw [q.1, ta919] at z; exact absurd z (by decide))).trans c913
                  have c929 : I921 a0 11 = v870 := (f923 _ _ (fun q => by have z := ta0; rw [q.1, ta919] at z; exact absurd z (by decide))).trans c914
                  have c930 : I921 a0 12 = v874 := (f923 _ _ (fun q => by have z := ta0; rw [q.1, ta919] at z; exact absurd z (by decide))).trans c915
                  have c931 : I921 a0 8 = v876 := (f923 _ _ (fun q => by have z := ta0; rw [q.1, ta919] at z; exact absurd z (by decide))).trans c916
                  have c932 : I921 a882 v37.toNatClampNeg = x1 := (f923 _ _ (fun q => by have z := ta882; rw [q.1, ta919] at z; exact absurd z (by decide))).trans c917
                  have c933 : I921 a900 v37.toNatClampNeg = v747 := (f923 _ _ (fun q => by have z := ta900; rw [q.1, ta919] at z; exact absurd z (by decide))).trans e908
                  have hM934 : NmM I921 R0 L817 a1 gQ := NmM.kp1 hM918 f923 ta919 rfl rfl hS907.1 ta1
                  refine tr_aload_n dX12_readEvent_139 rfl ?_
                  refine tr_getR dX12_readEvent_140 fl12_188 (kR15 hS922.1 ta0) d2 ?_
                  obtain ⟨a935, d936, ta935⟩ := rf14_14 hW0 ta1
                  refine tr_getR dX12_readEvent_143 fl12_283 (kR14 hS922.1 ta1) d936 ?_
                  refine tr_iload dX12_readEvent_146 rfl ?_
                  refine tr_iload dX12_readEvent_148 rfl ?_
                  refine q_iast dX12_readEvent_150 (kR57 hS922.1 ta935) (ti_in (nR57 hS922.1 ta935) (by omega) (by omega)) hS922 ta935 (by show (0 : Int) ≤ v820.toInt ∧ v820.toInt ≤ (240 : Int); omega) rfl (by rfl) ?_
                  intro I937 hS938 e940 f939
                  have c941 : I937 a1 2 = v37 := (f939 _ _ (fun q => by have z := ta1; rw [q.1, ta935] at z; exact absurd z (by decide))).trans c925
                  have c942 : I937 a0 13 = v862 := (f939 _ _ (fun q => by have z := ta0; rw [q.1, ta935] at z; exact absurd z (by decide))).trans c926
                  have c943 : I937 a0 9 = v864 := (f939 _ _ (fun q => by have z := ta0; rw [q.1, ta935] at z; exact absurd z (by decide))).trans c927
                  have c944 : I937 a0 10 = v867 := (f939 _ _ (fun q => by have z := ta0; rw [q.1, ta935] at z; exact absurd z (by decide))).trans c928
                  have c945 : I937 a0 11 = v870 := (f939 _ _ (fun q => by have z := ta0; rw [q.1, ta935] at z; exact absurd z (by decide))).trans c929
                  have c946 : I937 a0 12 = v874 := (f939 _ _ (fun q => by have z := ta0; rw [q.1, ta935] at z; exact absurd z (by decide))).trans c930
                  have c947 : I937 a0 8 = v876 := (f939 _ _ (fun q => by have z := ta0; rw [q.1, ta935] at z; exact absurd z (by decide))).trans c931
                  have c948 : I937 a882 v37.toNatClampNeg = x1 := (f939 _ _ (fun q => by have z := ta882; rw [q.1, ta935] at z; exact absurd z (by decide))).trans c932
                  have c949 : I937 a900 v37.toNatClampNeg = v747 := (f939 _ _ (fun q => by have z := ta900; rw [q.1, ta935] at z; exact absurd z (by decide))).trans c933
                  have hM950 : NmM I937 R0 L817 a1 gQ := NmM.kp1 hM934 f939 ta935 rfl rfl hS922.1 ta1
                  refine tr_aload_n dX12_readEvent_151 rfl ?_
                  refine tr_getR dX12_readEvent_152 fl12_188 (kR15 hS938.1 ta0) d2 ?_
                  refine tr_dup dX12_readEvent_155 rfl ?_
                  refine q_getI dX12_readEvent_156 fl12_265 (kR14 hS938.1 ta1) c941 ?_
                  refine q_iconst dX12_readEvent_159 (by decide) ?_
                  intro v951 h952
                  refine q_iaddE dX12_readEvent_160 (by intros; omega) ?_
                  intro v953 h954
                  refine q_putX dX12_readEvent_161 fl12_265 (kR14 hS938.1 ta1) (Or.inl rfl) hS938 ta1 (by decide +kernel) (hS938.1.putE (i := v37.toNatClampNeg) ta1 d883 d901 (by rw [c941]; exact (ti_nat (by omega)).symm) (by rw [c941]; omega) (by omega) (by rw [c948, c949]; omega)) ?_
                  intro I955 hS956 e957 f958
                  have c959 : I955 a0 13 = v862 := (f958 _ _ (fun q => absurd q.2 (by decide))).trans c942
                  have c960 : I955 a0 9 = v864 := (f958 _ _ (fun q => absurd q.2 (by decide))).trans c943
                  have c961 : I955 a0 10 = v867 := (f958 _ _ (fun q => absurd q.2 (by decide))).trans c944
                  have c962 : I955 a0 11 = v870 := (f958 _ _ (fun q => absurd q.2 (by decide))).trans c945
                  have c963 : I955 a0 12 = v874 := (f958 _ _ (fun q => absurd q.2 (by decide))).trans c946
                  have c964 : I955 a0 8 = v876 := (f958 _ _ (fun q => absurd q.2 (by decide))).trans c947
                  have c965 : I955 a882 v37.toNatClampNeg = x1 := (f958 _ _ (fun q => by have z := ta882; rw [q.1, ta1] at z; exact absurd z (by decide))).trans c948
                  have c966 : I955 a900 v37.toNatClampNeg = v747 := (f958 _ _ (fun q => by have z := ta900; rw [q.1, ta1] at z; exact absurd z (by decide))).trans c949
                  have hM967 : NmM I955 R0 L817 a1 gQ := NmM.kp1 hM950 f958 ta1 rfl rfl hS938.1 ta1
                  have eF := hF.eq
                  have eP := hP.eq
                  have es968 := evS_c0 (B := gB) (Q := gQ) (k := srt gB gs) (s := (tkN gB gs)) (by omega) (by omega)
                  obtain ⟨v969, c970⟩ : ∃ v, I955 a0 14 = v := ⟨_, rfl⟩
                  exact tr_vret hZ dX12_readEvent_164 rfl (by decide) (by decide) ⟨rfl, rfl, rfl, rfl, rfl, hS956, (Or.inl ⟨(by (try rw [w731]); (try rw [es968]); first | done | omega), (fun q0 z0 => by obtain rfl := Option.some.inj ((d2).symm.trans z0); (try rw [w731]); (try rw [es968]); (try rw [((hS956.cell ta1 (by decide +kernel)).trans c30)]); first | done | omega), (fun q0 z0 => by obtain rfl := Option.some.inj ((d2).symm.trans z0); (try rw [w731]); (try rw [es968]); (try rw [((hS956.cell ta1 (by decide +kernel)).trans c34)]); first | done | omega), (fun q0 z0 => by obtain rfl := Option.some.inj ((d2).symm.trans z0); (try rw [w731]); (try rw [es968]); (try rw [e957]); first | done | omega), (fun q0 z0 => by obtain rfl := Option.some.inj ((d2).symm.trans z0); (try rw [w731]); (try rw [es968]); (try rw [((hS956.cell ta1 (by decide +kernel)).trans c42)]); first | done | omega), (fun q0 z0 => by obtain rfl := Option.some.inj ((d2).symm.trans z0); (try rw [w731]); (try rw [es968]); (try rw [((hS956.cell ta1 (by decide +kernel)).trans c46)]); first | done | omega), (fun q0 z0 => by obtain rfl := Option.some.inj ((d2).symm.trans z0); (try rw [w731]); (try rw [es968]); (try rw [((hS956.cell ta1 (by decide +kernel)).trans c50)]); first | done | omega), (fun q0 z0 => by obtain rfl := Option.some.inj ((d2).symm.trans z0); (try rw [w731]); (try rw [es968]); (try rw [((hS956.cell ta1 (by decide +kernel)).trans c54)]); first | done | omega), (fun q0 z0 => by obtain rfl := Option.some.inj ((d2).symm.trans z0); (try rw [w731]); (try rw [es968]); (try rw [((hS956.cell ta1 (by decide +kernel)).trans c58)]); first | done | omega), (by (try rw [w731]); (try rw [es968]); (try rw [c959]); (try rw [c65]); first | done | omega), (by (try rw [w731]); (try rw [es968]); (try rw [c960]); first | done | omega), (by (try rw [w731]); (try rw [es968]); (try rw [c960]); first | done | omega), (by (try rw [w731]); (try rw [es968]); (try rw [c961]); first | done | omega), (by (try rw [w731]); (try rw [es968]); (try rw [c962]); first | done | omega), (by (try rw [w731]); (try rw [es968]); (try rw [c873]); first | done | assumption), (by (try rw [w731]); (try rw [es968]); (try rw [c963]); first | done | assumption), (by (try rw [w731]); (try rw [es968]); (try rw [c964]); first | done | assumption), hL860, (fun b hb => (Option.some.inj (d2.symm.trans hb)) ▸ NmM.ln (NmM.bd (k := srt gB gs) hM967 (by omega) (by omega)) rfl), trivial⟩), trivial⟩
                · skip
                  exfalso; omega
              · skip
                obtain ⟨v971, c972⟩ : ∃ v, I815 a0 9 = v := ⟨_, rfl⟩
                have b973 := iv15_9 hS823.1 ta0 c972
                rw [c972] at p842
                obtain ⟨v974, c975⟩ : ∃ v, I815 a0 13 = v := ⟨_, rfl⟩
                rw [c975] at p843
                obtain ⟨v976, c977⟩ : ∃ v, I815 a0 14 = v := ⟨_, rfl⟩
                rw [c977] at p844
                replace hF := hF.pos (by omega)
                replace hP := hP.pos (by omega)
                refine tr_istore dX12_readEvent_86 (by decide) (by decide) ?_
                refine tr_aload_n dX12_readEvent_88 rfl ?_
                refine q_getI dX12_readEvent_89 fl12_99 (kR15 hS823.1 ta0) c972 ?_
                refine q_iconst dX12_readEvent_92 (by decide) ?_
                intro v978 h979
                refine q_icmp_ne 97 dX12_readEvent_93 (by decide) (fun h980 => ?_) (fun h980 => ?_)
                · skip
                  exfalso; omega
                · skip
                  have eF := hF.eq
                  have eP := hP.eq
                  obtain ⟨v981, c982⟩ : ∃ v, I815 a0 10 = v := ⟨_, rfl⟩
                  have b983 := iv15_10 hS823.1 ta0 c982
                  obtain ⟨v984, c985⟩ : ∃ v, I815 a0 11 = v := ⟨_, rfl⟩
                  obtain ⟨y986, c987⟩ : ∃ v, L817 a0 15 = v := ⟨_, rfl⟩
                  obtain ⟨v988, c989⟩ : ∃ v, I815 a0 12 = v := ⟨_, rfl⟩
                  obtain ⟨v990, c991⟩ : ∃ v, I815 a0 8 = v := ⟨_, rfl⟩
                  have b992 := iv15_8 hS823.1 ta0 c991
                  exact tr_vret hZ dX12_readEvent_96 rfl (by decide) (by decide) ⟨rfl, rfl, rfl, rfl, rfl, hS823, (Or.inr (⟨(by (try rw [w731]); first | done | omega), (by (try rw [w731]); (try rw [c972]); first | done | omega), (by (try rw [w731]); (try rw [c975]); first | done | omega), (by (try rw [w731]); (try rw [c977]); first | done | omega), trivial⟩)), trivial⟩
              · skip
                obtain ⟨v993, c994⟩ : ∃ v, I815 a0 9 = v := ⟨_, rfl⟩
                have b995 := iv15_9 hS823.1 ta0 c994
                rw [c994] at p849
                obtain ⟨v996, c997⟩ : ∃ v, I815 a0 13 = v := ⟨_, rfl⟩
                rw [c997] at p850
                obtain ⟨v998, c999⟩ : ∃ v, I815 a0 14 = v := ⟨_, rfl⟩
                rw [c999] at p851
                replace hF := hF.neg (by omega)
                replace hP := hP.neg (by omega)
                replace hF := hF.pos (by omega)
                replace hP := hP.pos (by omega)
                refine tr_istore dX12_readEvent_86 (by decide) (by decide) ?_
                refine tr_aload_n dX12_readEvent_88 rfl ?_
                refine q_getI dX12_readEvent_89 fl12_99 (kR15 hS823.1 ta0) c994 ?_
                refine q_iconst dX12_readEvent_92 (by decide) ?_
                intro v1000 h1001
                refine q_icmp_ne 97 dX12_readEvent_93 (by decide) (fun h1002 => ?_) (fun h1002 => ?_)
                · skip
                  exfalso; omega
                · skip
                  have eF := hF.eq
                  have eP := hP.eq
                  obtain ⟨v1003, c1004⟩ : ∃ v, I815 a0 10 = v := ⟨_, rfl⟩
                  have b1005 := iv15_10 hS823.1 ta0 c1004
                  obtain ⟨v1006, c1007⟩ : ∃ v, I815 a0 11 = v := ⟨_, rfl⟩
                  obtain ⟨y1008, c1009⟩ : ∃ v, L817 a0 15 = v := ⟨_, rfl⟩
                  obtain ⟨v1010, c1011⟩ : ∃ v, I815 a0 12 = v := ⟨_, rfl⟩
                  obtain ⟨v1012, c1013⟩ : ∃ v, I815 a0 8 = v := ⟨_, rfl⟩
                  have b1014 := iv15_8 hS823.1 ta0 c1013
                  exact tr_vret hZ dX12_readEvent_96 rfl (by decide) (by decide) ⟨rfl, rfl, rfl, rfl, rfl, hS823, (Or.inr (⟨(by (try rw [w731]); first | done | omega), (by (try rw [w731]); (try rw [c994]); first | done | omega), (by (try rw [w731]); (try rw [c997]); first | done | omega), (by (try rw [w731]); (try rw [c999]); first | done | omega), trivial⟩)), trivial⟩
              · skip
                obtain ⟨v1015, c1016⟩ : ∃ v, I815 a0 9 = v := ⟨_, rfl⟩
                have b1017 := iv15_9 hS823.1 ta0 c1016
                rw [c1016] at p857
                obtain ⟨v1018, c1019⟩ : ∃ v, I815 a0 13 = v := ⟨_, rfl⟩
                rw [c1019] at p858
                obtain ⟨v1020, c1021⟩ : ∃ v, I815 a0 14 = v := ⟨_, rfl⟩
                rw [c1021] at p859
                replace hF := hF.neg (by omega)
                replace hP := hP.neg (by omega)
                replace hF := hF.neg (by omega)
                replace hP := hP.neg (by omega)
                replace hF := hF.pos (by omega)
                replace hP := hP.pos (by omega)
                refine tr_istore dX12_readEvent_86 (by decide) (by decide) ?_
                refine tr_aload_n dX12_readEvent_88 rfl ?_
                refine q_getI dX12_readEvent_89 fl12_99 (kR15 hS823.1 ta0) c1016 ?_
                refine q_iconst dX12_readEvent_92 (by decide) ?_
                intro v1022 h1023
                refine q_icmp_ne 97 dX12_readEvent_93 (by decide) (fun h1024 => ?_) (fun h1024 => ?_)
                · skip
                  exfalso; omega
                · skip
                  have eF := hF.eq
                  have eP := hP.eq
                  obtain ⟨v1025, c1026⟩ : ∃ v, I815 a0 10 = v := ⟨_, rfl⟩
                  have b1027 := iv15_10 hS823.1 ta0 c1026
                  obtain ⟨v1028, c1029⟩ : ∃ v, I815 a0 11 = v := ⟨_, rfl⟩
                  obtain ⟨y1030, c1031⟩ : ∃ v, L817 a0 15 = v := ⟨_, rfl⟩
                  obtain ⟨v1032, c1033⟩ : ∃ v, I815 a0 12 = v := ⟨_, rfl⟩
                  obtain ⟨v1034, c1035⟩ : ∃ v, I815 a0 8 = v := ⟨_, rfl⟩
                  have b1036 := iv15_8 hS823.1 ta0 c1035
                  exact tr_vret hZ dX12_readEvent_96 rfl (by decide) (by decide) ⟨rfl, rfl, rfl, rfl, rfl, hS823, (Or.inr (⟨(by (try rw [w731]); first | done | omega), (by (try rw [w731]); (try rw [c1016]); first | done | omega), (by (try rw [w731]); (try rw [c1019]); first | done | omega), (by (try rw [w731]); (try rw [c1021]); first | done | omega), trivial⟩)), trivial⟩
            · skip
              exfalso; omega
          · skip
            obtain ⟨v1037, c1038⟩ : ∃ v, I755 a0 9 = v := ⟨_, rfl⟩
            have b1039 := iv15_9 hS763.1 ta0 c1038
            rw [c1038] at p780
            obtain ⟨v1040, c1041⟩ : ∃ v, I755 a0 13 = v := ⟨_, rfl⟩
            rw [c1041] at p781
            obtain ⟨v1042, c1043⟩ : ∃ v, I755 a0 14 = v := ⟨_, rfl⟩
            rw [c1043] at p782
            replace hF := hF.pos (by omega)
            replace hP := hP.pos (by omega)
            refine tr_istore_n dX12_readEvent_57 (by decide) (by decide) ?_
            refine tr_iload_n dX12_readEvent_58 rfl ?_
            refine q_iconst dX12_readEvent_59 (by decide) ?_
            intro v1044 h1045
            refine q_icmp_ne 69 dX12_readEvent_60 (by decide) (fun h1046 => ?_) (fun h1046 => ?_)
            · skip
              refine tr_aload_n dX12_readEvent_69 rfl ?_
              refine tr_ldcwS dX12_readEvent_70 ld12_272 ?_
              refine tr_iload_n dX12_readEvent_73 rfl ?_
              refine q_iconst dX12_readEvent_74 (by decide) ?_
              intro v1047 h1048
              refine q_iaddE dX12_readEvent_75 (by intros; omega) ?_
              intro v1049 h1050
              refine tr_aload_n dX12_readEvent_76 rfl ?_
              refine tr_getR dX12_readEvent_77 fl12_188 (kR15 hS763.1 ta0) d2 ?_
              refine q_getI dX12_readEvent_80 fl12_192 (kR14 hS763.1 ta1) ((hS763.cell ta1 (by decide +kernel)).trans c30) ?_
              refine q_callVi hE (M' := mX12_readPart) (as := [_, _, _]) dX12_readEvent_83 lk12_249 inX12_readPart seX12_readPart myX12_readPart (by decide) ⟨by decide, by decide⟩ rfl (kR15 hS763.1 ta0) (Nat.le_of_ble_eq_true rfl) rfl rfl (by decide) (by decide) (k_X12_readPart hS763.1 ta0 (by decide)) ?_
              rintro v1055 cn' K' N' I1051 R1052 L1053 ⟨rfl, rfl, rfl, rfl, g1054, p1056, w1057, -⟩
              have hS1058 := hS763.tr g1054 (by decide +kernel) (by decide +kernel)
              have c1059 : I1051 a1 2 = v37 := (g1054.cell ta1 (by decide +kernel)).trans c764
              have b1060 : 1 ≤ v1055.toInt ∧ v1055.toInt ≤ 240 := by omega
              clear p1056
              have ov1061 := w1057.over (by rw [c1038]; omega)
              obtain ⟨v1062, c1063⟩ : ∃ v, I1051 a0 9 = v := ⟨_, rfl⟩
              have b1064 := iv15_9 hS1058.1 ta0 c1063
              obtain ⟨v1065, c1066⟩ : ∃ v, I1051 a0 13 = v := ⟨_, rfl⟩
              obtain ⟨v1067, c1068⟩ : ∃ v, I1051 a0 14 = v := ⟨_, rfl⟩
              (try rw [c1063] at ov1061)
              (try rw [c1066] at ov1061)
              (try rw [c1068] at ov1061)
              (try rw [c1038] at ov1061)
              (try rw [c1041] at ov1061)
              (try rw [c1043] at ov1061)
              refine tr_istore dX12_readEvent_86 (by decide) (by decide) ?_
              refine tr_aload_n dX12_readEvent_88 rfl ?_
              refine q_getI dX12_readEvent_89 fl12_99 (kR15 hS1058.1 ta0) c1063 ?_
              refine q_iconst dX12_readEvent_92 (by decide) ?_
              intro v1069 h1070
              refine q_icmp_ne 97 dX12_readEvent_93 (by decide) (fun h1071 => ?_) (fun h1071 => ?_)
              · skip
                exfalso; omega
              · skip
                have eF := hF.eq
                have eP := hP.eq
                obtain ⟨v1072, c1073⟩ : ∃ v, I1051 a0 10 = v := ⟨_, rfl⟩
                have b1074 := iv15_10 hS1058.1 ta0 c1073
                obtain ⟨v1075, c1076⟩ : ∃ v, I1051 a0 11 = v := ⟨_, rfl⟩
                obtain ⟨y1077, c1078⟩ : ∃ v, L1053 a0 15 = v := ⟨_, rfl⟩
                obtain ⟨v1079, c1080⟩ : ∃ v, I1051 a0 12 = v := ⟨_, rfl⟩
                obtain ⟨v1081, c1082⟩ : ∃ v, I1051 a0 8 = v := ⟨_, rfl⟩
                have b1083 := iv15_8 hS1058.1 ta0 c1082
                exact tr_vret hZ dX12_readEvent_96 rfl (by decide) (by decide) ⟨rfl, rfl, rfl, rfl, rfl, hS1058, (Or.inr (⟨(by (try rw [w731]); first | done | omega), (by (try rw [w731]); (try rw [c1063]); first | done | omega), (by (try rw [w731]); (try rw [c1066]); first | done | omega), (by (try rw [w731]); (try rw [c1068]); first | done | omega), trivial⟩)), trivial⟩
            · skip
              exfalso; omega
          · skip
            obtain ⟨v1084, c1085⟩ : ∃ v, I755 a0 9 = v := ⟨_, rfl⟩
            have b1086 := iv15_9 hS763.1 ta0 c1085
            rw [c1085] at p786
            obtain ⟨v1087, c1088⟩ : ∃ v, I755 a0 13 = v := ⟨_, rfl⟩
            rw [c1088] at p787
            obtain ⟨v1089, c1090⟩ : ∃ v, I755 a0 14 = v := ⟨_, rfl⟩
            rw [c1090] at p788
            replace hF := hF.neg (by omega)
            replace hP := hP.neg (by omega)
            replace hF := hF.pos (by omega)
            replace hP := hP.pos (by omega)
            refine tr_istore_n dX12_readEvent_57 (by decide) (by decide) ?_
            refine tr_iload_n dX12_readEvent_58 rfl ?_
            refine q_iconst dX12_readEvent_59 (by decide) ?_
            intro v1091 h1092
            refine q_icmp_ne 69 dX12_readEvent_60 (by decide) (fun h1093 => ?_) (fun h1093 => ?_)
            · skip
              refine tr_aload_n dX12_readEvent_69 rfl ?_
              refine tr_ldcwS dX12_readEvent_70 ld12_272 ?_
              refine tr_iload_n dX12_readEvent_73 rfl ?_
              refine q_iconst dX12_readEvent_74 (by decide) ?_
              intro v1094 h1095
              refine q_iaddE dX12_readEvent_75 (by intros; omega) ?_
              intro v1096 h1097
              refine tr_aload_n dX12_readEvent_76 rfl ?_
              refine tr_getR dX12_readEvent_77 fl12_188 (kR15 hS763.1 ta0) d2 ?_
              refine q_getI dX12_readEvent_80 fl12_192 (kR14 hS763.1 ta1) ((hS763.cell ta1 (by decide +kernel)).trans c30) ?_
              refine q_callVi hE (M' := mX12_readPart) (as := [_, _, _]) dX12_readEvent_83 lk12_249 inX12_readPart seX12_readPart myX12_readPart (by decide) ⟨by decide, by decide⟩ rfl (kR15 hS763.1 ta0) (Nat.le_of_ble_eq_true rfl) rfl rfl (by decide) (by decide) (k_X12_readPart hS763.1 ta0 (by decide)) ?_
              rintro v1102 cn' K' N' I1098 R1099 L1100 ⟨rfl, rfl, rfl, rfl, g1101, p1103, w1104, -⟩
              have hS1105 := hS763.tr g1101 (by decide +kernel) (by decide +kernel)
              have c1106 : I1098 a1 2 = v37 := (g1101.cell ta1 (by decide +kernel)).trans c764
              have b1107 : 1 ≤ v1102.toInt ∧ v1102.toInt ≤ 240 := by omega
              clear p1103
              have ov1108 := w1104.over (by rw [c1085]; omega)
              obtain ⟨v1109, c1110⟩ : ∃ v, I1098 a0 9 = v := ⟨_, rfl⟩
              have b1111 := iv15_9 hS1105.1 ta0 c1110
              obtain ⟨v1112, c1113⟩ : ∃ v, I1098 a0 13 = v := ⟨_, rfl⟩
              obtain ⟨v1114, c1115⟩ : ∃ v, I1098 a0 14 = v := ⟨_, rfl⟩
              (try rw [c1110] at ov1108)
              (try rw [c1113] at ov1108)
              (try rw [c1115] at ov1108)
              (try rw [c1085] at ov1108)
              (try rw [c1088] at ov1108)
              (try rw [c1090] at ov1108)
              refine tr_istore dX12_readEvent_86 (by decide) (by decide) ?_
              refine tr_aload_n dX12_readEvent_88 rfl ?_
              refine q_getI dX12_readEvent_89 fl12_99 (kR15 hS1105.1 ta0) c1110 ?_
              refine q_iconst dX12_readEvent_92 (by decide) ?_
              intro v1116 h1117
              refine q_icmp_ne 97 dX12_readEvent_93 (by decide) (fun h1118 => ?_) (fun h1118 => ?_)
              · skip
                exfalso; omega
              · skip
                have eF := hF.eq
                have eP := hP.eq
                obtain ⟨v1119, c1120⟩ : ∃ v, I1098 a0 10 = v := ⟨_, rfl⟩
                have b1121 := iv15_10 hS1105.1 ta0 c1120
                obtain ⟨v1122, c1123⟩ : ∃ v, I1098 a0 11 = v := ⟨_, rfl⟩
                obtain ⟨y1124, c1125⟩ : ∃ v, L1100 a0 15 = v := ⟨_, rfl⟩
                obtain ⟨v1126, c1127⟩ : ∃ v, I1098 a0 12 = v := ⟨_, rfl⟩
                obtain ⟨v1128, c1129⟩ : ∃ v, I1098 a0 8 = v := ⟨_, rfl⟩
                have b1130 := iv15_8 hS1105.1 ta0 c1129
                exact tr_vret hZ dX12_readEvent_96 rfl (by decide) (by decide) ⟨rfl, rfl, rfl, rfl, rfl, hS1105, (Or.inr (⟨(by (try rw [w731]); first | done | omega), (by (try rw [w731]); (try rw [c1110]); first | done | omega), (by (try rw [w731]); (try rw [c1113]); first | done | omega), (by (try rw [w731]); (try rw [c1115]); first | done | omega), trivial⟩)), trivial⟩
            · skip
              exfalso; omega
        · skip
          exfalso; omega
    · skip
      obtain ⟨v1131, c1132⟩ : ∃ v, I680 a0 9 = v := ⟨_, rfl⟩
      have b1133 := iv15_9 hS688.1 ta0 c1132
      rw [c1132] at p702
      obtain ⟨v1134, c1135⟩ : ∃ v, I680 a0 13 = v := ⟨_, rfl⟩
      rw [c1135] at p703
      obtain ⟨v1136, c1137⟩ : ∃ v, I680 a0 14 = v := ⟨_, rfl⟩
      rw [c1137] at p704
      replace hF := hF.pos (by omega)
      replace hP := hP.pos (by omega)
      refine tr_iload_n dX12_readEvent_13 rfl ?_
      refine q_iconst dX12_readEvent_14 (by decide) ?_
      intro v1138 h1139
      refine q_icmp_eq 23 dX12_readEvent_15 (by decide) (fun h1140 => ?_) (fun h1140 => ?_)
      · skip
        exfalso; omega
      · skip
        refine tr_iload_n dX12_readEvent_18 rfl ?_
        refine q_iconst dX12_readEvent_19 (by decide) ?_
        intro v1141 h1142
        refine q_icmp_ne 40 dX12_readEvent_20 (by decide) (fun h1143 => ?_) (fun h1143 => ?_)
        · skip
          refine q_bipush dX12_readEvent_40 (by decide +kernel) ?_
          intro v1144 h1145
          refine tr_istore_n dX12_readEvent_42 (by decide) (by decide) ?_
          refine tr_aload_n dX12_readEvent_43 rfl ?_
          refine q_iconst dX12_readEvent_44 (by decide) ?_
          intro v1146 h1147
          refine tr_aload_n dX12_readEvent_45 rfl ?_
          refine tr_getR dX12_readEvent_46 fl12_188 (kR15 hS688.1 ta0) d2 ?_
          refine q_getI dX12_readEvent_49 fl12_192 (kR14 hS688.1 ta1) ((hS688.cell ta1 (by decide +kernel)).trans c30) ?_
          refine q_iconst dX12_readEvent_52 (by decide) ?_
          intro v1148 h1149
          refine q_isubE dX12_readEvent_53 (by intros; omega) ?_
          intro v1150 h1151
          refine q_callVi hE (M' := mX12_readWhole) (as := [_, _]) dX12_readEvent_54 lk12_161 inX12_readWhole seX12_readWhole myX12_readWhole (by decide) ⟨by decide, by decide⟩ rfl (kR15 hS688.1 ta0) (Nat.le_of_ble_eq_true rfl) rfl rfl (by decide) (by decide) (k_X12_readWhole hS688.1 ta0) ?_
          rintro v1156 cn' K' N' I1152 R1153 L1154 ⟨rfl, rfl, rfl, rfl, g1155, p1157, w1158, -⟩
          have hS1159 := hS688.tr g1155 (by decide +kernel) (by decide +kernel)
          have c1160 : I1152 a1 2 = v37 := (g1155.cell ta1 (by decide +kernel)).trans c689
          have b1161 : 0 ≤ v1156.toInt ∧ v1156.toInt ≤ 239 := by omega
          clear p1157
          have ov1162 := w1158.over (by rw [c1132]; omega)
          obtain ⟨v1163, c1164⟩ : ∃ v, I1152 a0 9 = v := ⟨_, rfl⟩
          have b1165 := iv15_9 hS1159.1 ta0 c1164
          obtain ⟨v1166, c1167⟩ : ∃ v, I1152 a0 13 = v := ⟨_, rfl⟩
          obtain ⟨v1168, c1169⟩ : ∃ v, I1152 a0 14 = v := ⟨_, rfl⟩
          (try rw [c1164] at ov1162)
          (try rw [c1167] at ov1162)
          (try rw [c1169] at ov1162)
          (try rw [c1132] at ov1162)
          (try rw [c1135] at ov1162)
          (try rw [c1137] at ov1162)
          refine tr_istore_n dX12_readEvent_57 (by decide) (by decide) ?_
          refine tr_iload_n dX12_readEvent_58 rfl ?_
          refine q_iconst dX12_readEvent_59 (by decide) ?_
          intro v1170 h1171
          refine q_icmp_ne 69 dX12_readEvent_60 (by decide) (fun h1172 => ?_) (fun h1172 => ?_)
          · skip
            refine tr_aload_n dX12_readEvent_69 rfl ?_
            refine tr_ldcwS dX12_readEvent_70 ld12_272 ?_
            refine tr_iload_n dX12_readEvent_73 rfl ?_
            refine q_iconst dX12_readEvent_74 (by decide) ?_
            intro v1173 h1174
            refine q_iaddE dX12_readEvent_75 (by intros; omega) ?_
            intro v1175 h1176
            refine tr_aload_n dX12_readEvent_76 rfl ?_
            refine tr_getR dX12_readEvent_77 fl12_188 (kR15 hS1159.1 ta0) d2 ?_
            refine q_getI dX12_readEvent_80 fl12_192 (kR14 hS1159.1 ta1) ((hS1159.cell ta1 (by decide +kernel)).trans c30) ?_
            refine q_callVi hE (M' := mX12_readPart) (as := [_, _, _]) dX12_readEvent_83 lk12_249 inX12_readPart seX12_readPart myX12_readPart (by decide) ⟨by decide, by decide⟩ rfl (kR15 hS1159.1 ta0) (Nat.le_of_ble_eq_true rfl) rfl rfl (by decide) (by decide) (k_X12_readPart hS1159.1 ta0 (by decide)) ?_
            rintro v1181 cn' K' N' I1177 R1178 L1179 ⟨rfl, rfl, rfl, rfl, g1180, p1182, w1183, -⟩
            have hS1184 := hS1159.tr g1180 (by decide +kernel) (by decide +kernel)
            have c1185 : I1177 a1 2 = v37 := (g1180.cell ta1 (by decide +kernel)).trans c1160
            have b1186 : 1 ≤ v1181.toInt ∧ v1181.toInt ≤ 240 := by omega
            clear p1182
            have ov1187 := w1183.over (by rw [c1164]; omega)
            obtain ⟨v1188, c1189⟩ : ∃ v, I1177 a0 9 = v := ⟨_, rfl⟩
            have b1190 := iv15_9 hS1184.1 ta0 c1189
            obtain ⟨v1191, c1192⟩ : ∃ v, I1177 a0 13 = v := ⟨_, rfl⟩
            obtain ⟨v1193, c1194⟩ : ∃ v, I1177 a0 14 = v := ⟨_, rfl⟩
            (try rw [c1189] at ov1187)
            (try rw [c1192] at ov1187)
            (try rw [c1194] at ov1187)
            (try rw [c1164] at ov1187)
            (try rw [c1167] at ov1187)
            (try rw [c1169] at ov1187)
            refine tr_istore dX12_readEvent_86 (by decide) (by decide) ?_
            refine tr_aload_n dX12_readEvent_88 rfl ?_
            refine q_getI dX12_readEvent_89 fl12_99 (kR15 hS1184.1 ta0) c1189 ?_
            refine q_iconst dX12_readEvent_92 (by decide) ?_
            intro v1195 h1196
            refine q_icmp_ne 97 dX12_readEvent_93 (by decide) (fun h1197 => ?_) (fun h1197 => ?_)
            · skip
              exfalso; omega
            · skip
              have eF := hF.eq
              have eP := hP.eq
              obtain ⟨v1198, c1199⟩ : ∃ v, I1177 a0 10 = v := ⟨_, rfl⟩
              have b1200 := iv15_10 hS1184.1 ta0 c1199
              obtain ⟨v1201, c1202⟩ : ∃ v, I1177 a0 11 = v := ⟨_, rfl⟩
              obtain ⟨y1203, c1204⟩ : ∃ v, L1179 a0 15 = v := ⟨_, rfl⟩
              obtain ⟨v1205, c1206⟩ : ∃ v, I1177 a0 12 = v := ⟨_, rfl⟩
              obtain ⟨v1207, c1208⟩ : ∃ v, I1177 a0 8 = v := ⟨_, rfl⟩
              have b1209 := iv15_8 hS1184.1 ta0 c1208
              exact tr_vret hZ dX12_readEvent_96 rfl (by decide) (by decide) ⟨rfl, rfl, rfl, rfl, rfl, hS1184, (Or.inr (⟨(by first | done | omega), (by (try rw [c1189]); first | done | omega), (by (try rw [c1192]); first | done | omega), (by (try rw [c1194]); first | done | omega), trivial⟩)), trivial⟩
          · skip
            exfalso; omega
        · skip
          exfalso; omega
    · skip
      obtain ⟨v1210, c1211⟩ : ∃ v, I680 a0 9 = v := ⟨_, rfl⟩
      have b1212 := iv15_9 hS688.1 ta0 c1211
      rw [c1211] at p707
      obtain ⟨v1213, c1214⟩ : ∃ v, I680 a0 13 = v := ⟨_, rfl⟩
      rw [c1214] at p708
      obtain ⟨v1215, c1216⟩ : ∃ v, I680 a0 14 = v := ⟨_, rfl⟩
      rw [c1216] at p709
      replace hF := hF.neg (by omega)
      replace hP := hP.neg (by omega)
      replace hF := hF.pos (by omega)
      replace hP := hP.pos (by omega)
      refine tr_iload_n dX12_readEvent_13 rfl ?_
      refine q_iconst dX12_readEvent_14 (by decide) ?_
      intro v1217 h1218
      refine q_icmp_eq 23 dX12_readEvent_15 (by decide) (fun h1219 => ?_) (fun h1219 => ?_)
      · skip
        exfalso; omega
      · skip
        refine tr_iload_n dX12_readEvent_18 rfl ?_
        refine q_iconst dX12_readEvent_19 (by decide) ?_
        intro v1220 h1221
        refine q_icmp_ne 40 dX12_readEvent_20 (by decide) (fun h1222 => ?_) (fun h1222 => ?_)
        · skip
          refine q_bipush dX12_readEvent_40 (by decide +kernel) ?_
          intro v1223 h1224
          refine tr_istore_n dX12_readEvent_42 (by decide) (by decide) ?_
          refine tr_aload_n dX12_readEvent_43 rfl ?_
          refine q_iconst dX12_readEvent_44 (by decide) ?_
          intro v1225 h1226
          refine tr_aload_n dX12_readEvent_45 rfl ?_
          refine tr_getR dX12_readEvent_46 fl12_188 (kR15 hS688.1 ta0) d2 ?_
          refine q_getI dX12_readEvent_49 fl12_192 (kR14 hS688.1 ta1) ((hS688.cell ta1 (by decide +kernel)).trans c30) ?_
          refine q_iconst dX12_readEvent_52 (by decide) ?_
          intro v1227 h1228
          refine q_isubE dX12_readEvent_53 (by intros; omega) ?_
          intro v1229 h1230
          refine q_callVi hE (M' := mX12_readWhole) (as := [_, _]) dX12_readEvent_54 lk12_161 inX12_readWhole seX12_readWhole myX12_readWhole (by decide) ⟨by decide, by decide⟩ rfl (kR15 hS688.1 ta0) (Nat.le_of_ble_eq_true rfl) rfl rfl (by decide) (by decide) (k_X12_readWhole hS688.1 ta0) ?_
          rintro v1235 cn' K' N' I1231 R1232 L1233 ⟨rfl, rfl, rfl, rfl, g1234, p1236, w1237, -⟩
          have hS1238 := hS688.tr g1234 (by decide +kernel) (by decide +kernel)
          have c1239 : I1231 a1 2 = v37 := (g1234.cell ta1 (by decide +kernel)).trans c689
          have b1240 : 0 ≤ v1235.toInt ∧ v1235.toInt ≤ 0 := by omega
          clear p1236
          have ov1241 := w1237.over (by rw [c1211]; omega)
          obtain ⟨v1242, c1243⟩ : ∃ v, I1231 a0 9 = v := ⟨_, rfl⟩
          have b1244 := iv15_9 hS1238.1 ta0 c1243
          obtain ⟨v1245, c1246⟩ : ∃ v, I1231 a0 13 = v := ⟨_, rfl⟩
          obtain ⟨v1247, c1248⟩ : ∃ v, I1231 a0 14 = v := ⟨_, rfl⟩
          (try rw [c1243] at ov1241)
          (try rw [c1246] at ov1241)
          (try rw [c1248] at ov1241)
          (try rw [c1211] at ov1241)
          (try rw [c1214] at ov1241)
          (try rw [c1216] at ov1241)
          refine tr_istore_n dX12_readEvent_57 (by decide) (by decide) ?_
          refine tr_iload_n dX12_readEvent_58 rfl ?_
          refine q_iconst dX12_readEvent_59 (by decide) ?_
          intro v1249 h1250
          refine q_icmp_ne 69 dX12_readEvent_60 (by decide) (fun h1251 => ?_) (fun h1251 => ?_)
          · skip
            refine tr_aload_n dX12_readEvent_69 rfl ?_
            refine tr_ldcwS dX12_readEvent_70 ld12_272 ?_
            refine tr_iload_n dX12_readEvent_73 rfl ?_
            refine q_iconst dX12_readEvent_74 (by decide) ?_
            intro v1252 h1253
            refine q_iaddE dX12_readEvent_75 (by intros; omega) ?_
            intro v1254 h1255
            refine tr_aload_n dX12_readEvent_76 rfl ?_
            refine tr_getR dX12_readEvent_77 fl12_188 (kR15 hS1238.1 ta0) d2 ?_
            refine q_getI dX12_readEvent_80 fl12_192 (kR14 hS1238.1 ta1) ((hS1238.cell ta1 (by decide +kernel)).trans c30) ?_
            refine q_callVi hE (M' := mX12_readPart) (as := [_, _, _]) dX12_readEvent_83 lk12_249 inX12_readPart seX12_readPart myX12_readPart (by decide) ⟨by decide, by decide⟩ rfl (kR15 hS1238.1 ta0) (Nat.le_of_ble_eq_true rfl) rfl rfl (by decide) (by decide) (k_X12_readPart hS1238.1 ta0 (by decide)) ?_
            rintro v1260 cn' K' N' I1256 R1257 L1258 ⟨rfl, rfl, rfl, rfl, g1259, p1261, w1262, -⟩
            have hS1263 := hS1238.tr g1259 (by decide +kernel) (by decide +kernel)
            have c1264 : I1256 a1 2 = v37 := (g1259.cell ta1 (by decide +kernel)).trans c1239
            have b1265 : 1 ≤ v1260.toInt ∧ v1260.toInt ≤ 1 := by omega
            clear p1261
            have ov1266 := w1262.over (by rw [c1243]; omega)
            obtain ⟨v1267, c1268⟩ : ∃ v, I1256 a0 9 = v := ⟨_, rfl⟩
            have b1269 := iv15_9 hS1263.1 ta0 c1268
            obtain ⟨v1270, c1271⟩ : ∃ v, I1256 a0 13 = v := ⟨_, rfl⟩
            obtain ⟨v1272, c1273⟩ : ∃ v, I1256 a0 14 = v := ⟨_, rfl⟩
            (try rw [c1268] at ov1266)
            (try rw [c1271] at ov1266)
            (try rw [c1273] at ov1266)
            (try rw [c1243] at ov1266)
            (try rw [c1246] at ov1266)
            (try rw [c1248] at ov1266)
            refine tr_istore dX12_readEvent_86 (by decide) (by decide) ?_
            refine tr_aload_n dX12_readEvent_88 rfl ?_
            refine q_getI dX12_readEvent_89 fl12_99 (kR15 hS1263.1 ta0) c1268 ?_
            refine q_iconst dX12_readEvent_92 (by decide) ?_
            intro v1274 h1275
            refine q_icmp_ne 97 dX12_readEvent_93 (by decide) (fun h1276 => ?_) (fun h1276 => ?_)
            · skip
              exfalso; omega
            · skip
              have eF := hF.eq
              have eP := hP.eq
              obtain ⟨v1277, c1278⟩ : ∃ v, I1256 a0 10 = v := ⟨_, rfl⟩
              have b1279 := iv15_10 hS1263.1 ta0 c1278
              obtain ⟨v1280, c1281⟩ : ∃ v, I1256 a0 11 = v := ⟨_, rfl⟩
              obtain ⟨y1282, c1283⟩ : ∃ v, L1258 a0 15 = v := ⟨_, rfl⟩
              obtain ⟨v1284, c1285⟩ : ∃ v, I1256 a0 12 = v := ⟨_, rfl⟩
              obtain ⟨v1286, c1287⟩ : ∃ v, I1256 a0 8 = v := ⟨_, rfl⟩
              have b1288 := iv15_8 hS1263.1 ta0 c1287
              exact tr_vret hZ dX12_readEvent_96 rfl (by decide) (by decide) ⟨rfl, rfl, rfl, rfl, rfl, hS1263, (Or.inr (⟨(by first | done | omega), (by (try rw [c1268]); first | done | omega), (by (try rw [c1271]); first | done | omega), (by (try rw [c1273]); first | done | omega), trivial⟩)), trivial⟩
          · skip
            exfalso; omega
        · skip
          exfalso; omega
  · skip
    refine tr_aload_n dX12_readEvent_0 rfl ?_
    refine tr_aload_n dX12_readEvent_1 rfl ?_
    refine tr_getR dX12_readEvent_2 fl12_188 (kR15 hS0.1 ta0) d2 ?_
    refine q_getI dX12_readEvent_5 fl12_265 (kR14 hS0.1 ta1) c38 ?_
    refine q_bipush dX12_readEvent_8 (by decide +kernel) ?_
    intro v1289 h1290
    refine q_callVv hE (M' := mX12_begins) (as := [_, _]) dX12_readEvent_10 lk12_268 inX12_begins seX12_begins myX12_begins (by decide) ⟨by decide, by decide⟩ rfl (kR15 hS0.1 ta0) (Nat.le_of_ble_eq_true rfl) rfl rfl (by decide) (by decide) (fk_X12_begins hS0.1 (gB) (gs) (gQ) ta0 (TxA.kp hT hS0 ta0 rfl rfl rfl (by decide +kernel) (by decide +kernel)) (by (try rw [c4]); first | done | omega) (by (try rw [c4]); first | done | omega) (by (try rw [c9]); first | done | omega) (by (try rw [c13]); first | done | omega) (by (try rw [c16]); first | done | assumption) (by (try rw [c19]); first | done | assumption) (by (try rw [c22]); first | done | assumption) (by (try rw [c26]); first | done | omega) (fun q0 z0 => by obtain rfl := Option.some.inj ((d2).symm.trans z0); (try rw [c30]); first | done | omega) (by first | done | omega) ⟨_, d2⟩) ?_
    rintro cn' K' N' I1291 R1292 L1293 ⟨rfl, rfl, rfl, rfl, g1294, dj1297, -⟩
    have hM1298 : NmM I1291 R0 L0 a1 gQ := NmM.kpS hM0 g1294 hS0.1 ta1 (by decide +kernel) (by decide +kernel)
    have hS1299 := hS0.tr g1294 (by decide +kernel) (by decide +kernel)
    have c1300 : I1291 a1 2 = v37 := (g1294.cell ta1 (by decide +kernel)).trans c38
    rcases dj1297 with ⟨p1301, p1302, p1303, p1304, p1305, p1306, p1307, p1308, p1309, p1310, gl1311, -⟩ | ⟨p1312, p1313, p1314, p1315, -⟩ | ⟨p1316, p1317, p1318, p1319, p1320, -⟩
    · skip
      have hL1321 := hL0.tr gl1311 (by decide +kernel)
      have hM1322 : NmM I1291 R0 L1293 a1 gQ := NmM.kpL hM1298 gl1311 hS1299.1 ta1 (by decide +kernel)
      obtain ⟨v1323, c1324⟩ : ∃ v, I1291 a0 13 = v := ⟨_, rfl⟩
      rw [c1324] at p1303
      rw [c65] at p1303
      obtain ⟨v1325, c1326⟩ : ∃ v, I1291 a0 9 = v := ⟨_, rfl⟩
      have b1327 := iv15_9 hS1299.1 ta0 c1326
      rw [c1326] at p1304
      rw [c1326] at p1305
      obtain ⟨v1328, c1329⟩ : ∃ v, I1291 a0 10 = v := ⟨_, rfl⟩
      have b1330 := iv15_10 hS1299.1 ta0 c1329
      rw [c1329] at p1306
      obtain ⟨v1331, c1332⟩ : ∃ v, I1291 a0 11 = v := ⟨_, rfl⟩
      rw [c1332] at p1307
      obtain ⟨y1333, c1334⟩ : ∃ v, L1293 a0 15 = v := ⟨_, rfl⟩
      rw [c1334] at p1308
      obtain ⟨v1335, c1336⟩ : ∃ v, I1291 a0 12 = v := ⟨_, rfl⟩
      rw [c1336] at p1309
      obtain ⟨v1337, c1338⟩ : ∃ v, I1291 a0 8 = v := ⟨_, rfl⟩
      have b1339 := iv15_8 hS1299.1 ta0 c1338
      rw [c1338] at p1310
      replace hF := hF.neg (by omega)
      replace hP := hP.neg (by omega)
      replace hF := hF.neg (by omega)
      replace hP := hP.neg (by omega)
      obtain ⟨w1340, w1341, w1342, w1343, w1344, w1345, w1346, w1347, w1348, w1349, w1350, w1351⟩ := lnl_e (B := gB) (Q := gQ) (s := gs) (by omega) (by omega)
      replace hF := hF.to w1340 (evF_c2 (B := gB) (Q := gQ) (k := srt gB gs) (s := (tkN gB gs)) (by omega))
      replace hP := hP.to w1341 (evP_c2 (B := gB) (Q := gQ) (k := srt gB gs) (s := (tkN gB gs)) (by omega))
      refine tr_iload_n dX12_readEvent_13 rfl ?_
      refine q_iconst dX12_readEvent_14 (by decide) ?_
      intro v1352 h1353
      refine q_icmp_eq 23 dX12_readEvent_15 (by decide) (fun h1354 => ?_) (fun h1354 => ?_)
      · skip
        refine tr_aload_n dX12_readEvent_23 rfl ?_
        refine q_iconst dX12_readEvent_24 (by decide) ?_
        intro v1355 h1356
        refine tr_aload_n dX12_readEvent_25 rfl ?_
        refine tr_getR dX12_readEvent_26 fl12_188 (kR15 hS1299.1 ta0) d2 ?_
        refine q_getI dX12_readEvent_29 fl12_263 (kR14 hS1299.1 ta1) ((hS1299.cell ta1 (by decide +kernel)).trans c34) ?_
        refine q_iconst dX12_readEvent_32 (by decide) ?_
        intro v1357 h1358
        refine q_isubE dX12_readEvent_33 (by intros; omega) ?_
        intro v1359 h1360
        refine q_callVi hE (M' := mX12_readWhole) (as := [_, _]) dX12_readEvent_34 lk12_161 inX12_readWhole seX12_readWhole myX12_readWhole (by decide) ⟨by decide, by decide⟩ rfl (kR15 hS1299.1 ta0) (Nat.le_of_ble_eq_true rfl) rfl rfl (by decide) (by decide) (fk_X12_readWhole hS1299.1 (gB) ((tkN gB gs)) ta0 (TxA.kp hT hS1299 ta0 rfl rfl rfl (by decide +kernel) (by decide +kernel)) (by (try rw [c1326]); first | done | omega) (by (try rw [c1326]); first | done | omega) (by (try rw [c1329]); first | done | omega) (by (try rw [c1332]); first | done | omega) (by (try rw [c1334]); first | done | assumption) (by (try rw [c1336]); first | done | assumption) (by (try rw [c1338]); first | done | assumption) (by (try rw [((hS1299.cell ta0 (by decide +kernel)).trans c26)]); first | done | omega)) ?_
        rintro v1366 cn' K' N' I1361 R1362 L1363 ⟨rfl, rfl, rfl, rfl, g1364, dj1367, -⟩
        have hM1368 : NmM I1361 R0 L1293 a1 gQ := NmM.kpS hM1322 g1364 hS1299.1 ta1 (by decide +kernel) (by decide +kernel)
        have hS1369 := hS1299.tr g1364 (by decide +kernel) (by decide +kernel)
        have c1370 : I1361 a1 2 = v37 := (g1364.cell ta1 (by decide +kernel)).trans c1300
        rcases dj1367 with ⟨p1371, p1372, p1373, p1374, p1375, p1376, p1377, p1378, p1379, p1380, p1381, p1382, gl1383, -⟩ | ⟨p1384, p1385, p1386, p1387, p1388, -⟩ | ⟨p1389, p1390, p1391, p1392, p1393, p1394, -⟩
        · skip
          have hL1395 := hL1321.tr gl1383 (by decide +kernel)
          have hM1396 : NmM I1361 R0 L1363 a1 gQ := NmM.kpL hM1368 gl1383 hS1369.1 ta1 (by decide +kernel)
          obtain ⟨v1397, c1398⟩ : ∃ v, I1361 a0 13 = v := ⟨_, rfl⟩
          rw [c1398] at p1375
          rw [c1324] at p1375
          obtain ⟨v1399, c1400⟩ : ∃ v, I1361 a0 9 = v := ⟨_, rfl⟩
          have b1401 := iv15_9 hS1369.1 ta0 c1400
          rw [c1400] at p1376
          rw [c1400] at p1377
          obtain ⟨v1402, c1403⟩ : ∃ v, I1361 a0 10 = v := ⟨_, rfl⟩
          have b1404 := iv15_10 hS1369.1 ta0 c1403
          rw [c1403] at p1378
          obtain ⟨v1405, c1406⟩ : ∃ v, I1361 a0 11 = v := ⟨_, rfl⟩
          rw [c1406] at p1379
          obtain ⟨y1407, c1408⟩ : ∃ v, L1363 a0 15 = v := ⟨_, rfl⟩
          rw [c1408] at p1380
          obtain ⟨v1409, c1410⟩ : ∃ v, I1361 a0 12 = v := ⟨_, rfl⟩
          rw [c1410] at p1381
          obtain ⟨v1411, c1412⟩ : ∃ v, I1361 a0 8 = v := ⟨_, rfl⟩
          have b1413 := iv15_8 hS1369.1 ta0 c1412
          rw [c1412] at p1382
          replace hF := hF.neg (by omega)
          replace hP := hP.neg (by omega)
          replace hF := hF.neg (by omega)
          replace hP := hP.neg (by omega)
          refine tr_goto 42 dX12_readEvent_37 (by decide) ?_
          refine tr_istore_n dX12_readEvent_42 (by decide) (by decide) ?_
          refine tr_aload_n dX12_readEvent_43 rfl ?_
          refine q_iconst dX12_readEvent_44 (by decide) ?_
          intro v1414 h1415
          refine tr_aload_n dX12_readEvent_45 rfl ?_
          refine tr_getR dX12_readEvent_46 fl12_188 (kR15 hS1369.1 ta0) d2 ?_
          refine q_getI dX12_readEvent_49 fl12_192 (kR14 hS1369.1 ta1) ((hS1369.cell ta1 (by decide +kernel)).trans c30) ?_
          refine q_iconst dX12_readEvent_52 (by decide) ?_
          intro v1416 h1417
          refine q_isubE dX12_readEvent_53 (by intros; omega) ?_
          intro v1418 h1419
          refine q_callVi hE (M' := mX12_readWhole) (as := [_, _]) dX12_readEvent_54 lk12_161 inX12_readWhole seX12_readWhole myX12_readWhole (by decide) ⟨by decide, by decide⟩ rfl (kR15 hS1369.1 ta0) (Nat.le_of_ble_eq_true rfl) rfl rfl (by decide) (by decide) (fk_X12_readWhole hS1369.1 (gB) ((tkN gB (tkN gB gs))) ta0 (TxA.kp hT hS1369 ta0 rfl rfl rfl (by decide +kernel) (by decide +kernel)) (by (try rw [c1400]); first | done | omega) (by (try rw [c1400]); first | done | omega) (by (try rw [c1403]); first | done | omega) (by (try rw [c1406]); first | done | omega) (by (try rw [c1408]); first | done | assumption) (by (try rw [c1410]); first | done | assumption) (by (try rw [c1412]); first | done | assumption) (by (try rw [((hS1369.cell ta0 (by decide +kernel)).trans c26)]); first | done | omega)) ?_
          rintro v1425 cn' K' N' I1420 R1421 L1422 ⟨rfl, rfl, rfl, rfl, g1423, dj1426, -⟩
          have hM1427 : NmM I1420 R0 L1363 a1 gQ := NmM.kpS hM1396 g1423 hS1369.1 ta1 (by decide +kernel) (by decide +kernel)
          have hS1428 := hS1369.tr g1423 (by decide +kernel) (by decide +kernel)
          have c1429 : I1420 a1 2 = v37 := (g1423.cell ta1 (by decide +kernel)).trans c1370
          rcases dj1426 with ⟨p1430, p1431, p1432, p1433, p1434, p1435, p1436, p1437, p1438, p1439, p1440, p1441, gl1442, -⟩ | ⟨p1443, p1444, p1445, p1446, p1447, -⟩ | ⟨p1448, p1449, p1450, p1451, p1452, p1453, -⟩
          · skip
            have hL1454 := hL1395.tr gl1442 (by decide +kernel)
            have hM1455 : NmM I1420 R0 L1422 a1 gQ := NmM.kpL hM1427 gl1442 hS1428.1 ta1 (by decide +kernel)
            obtain ⟨v1456, c1457⟩ : ∃ v, I1420 a0 13 = v := ⟨_, rfl⟩
            rw [c1457] at p1434
            rw [c1398] at p1434
            obtain ⟨v1458, c1459⟩ : ∃ v, I1420 a0 9 = v := ⟨_, rfl⟩
            have b1460 := iv15_9 hS1428.1 ta0 c1459
            rw [c1459] at p1435
            rw [c1459] at p1436
            obtain ⟨v1461, c1462⟩ : ∃ v, I1420 a0 10 = v := ⟨_, rfl⟩
            have b1463 := iv15_10 hS1428.1 ta0 c1462
            rw [c1462] at p1437
            obtain ⟨v1464, c1465⟩ : ∃ v, I1420 a0 11 = v := ⟨_, rfl⟩
            rw [c1465] at p1438
            obtain ⟨y1466, c1467⟩ : ∃ v, L1422 a0 15 = v := ⟨_, rfl⟩
            rw [c1467] at p1439
            obtain ⟨v1468, c1469⟩ : ∃ v, I1420 a0 12 = v := ⟨_, rfl⟩
            rw [c1469] at p1440
            obtain ⟨v1470, c1471⟩ : ∃ v, I1420 a0 8 = v := ⟨_, rfl⟩
            have b1472 := iv15_8 hS1428.1 ta0 c1471
            rw [c1471] at p1441
            replace hF := hF.neg (by omega)
            replace hP := hP.neg (by omega)
            replace hF := hF.neg (by omega)
            replace hP := hP.neg (by omega)
            refine tr_istore_n dX12_readEvent_57 (by decide) (by decide) ?_
            refine tr_iload_n dX12_readEvent_58 rfl ?_
            refine q_iconst dX12_readEvent_59 (by decide) ?_
            intro v1473 h1474
            refine q_icmp_ne 69 dX12_readEvent_60 (by decide) (fun h1475 => ?_) (fun h1475 => ?_)
            · skip
              refine tr_aload_n dX12_readEvent_69 rfl ?_
              refine tr_ldcwS dX12_readEvent_70 ld12_272 ?_
              refine tr_iload_n dX12_readEvent_73 rfl ?_
              refine q_iconst dX12_readEvent_74 (by decide) ?_
              intro v1476 h1477
              refine q_iaddE dX12_readEvent_75 (by intros; omega) ?_
              intro v1478 h1479
              refine tr_aload_n dX12_readEvent_76 rfl ?_
              refine tr_getR dX12_readEvent_77 fl12_188 (kR15 hS1428.1 ta0) d2 ?_
              refine q_getI dX12_readEvent_80 fl12_192 (kR14 hS1428.1 ta1) ((hS1428.cell ta1 (by decide +kernel)).trans c30) ?_
              refine q_callVi hE (M' := mX12_readPart) (as := [_, _, _]) dX12_readEvent_83 lk12_249 inX12_readPart seX12_readPart myX12_readPart (by decide) ⟨by decide, by decide⟩ rfl (kR15 hS1428.1 ta0) (Nat.le_of_ble_eq_true rfl) rfl rfl (by decide) (by decide) (fk_X12_readPart hS1428.1 (gB) ((tkN gB (tkN gB (tkN gB gs)))) ta0 (by decide) (TxA.kp hT hS1428 ta0 rfl rfl rfl (by decide +kernel) (by decide +kernel)) (by (try rw [c1459]); first | done | omega) (by (try rw [c1459]); first | done | omega) (by (try rw [c1462]); first | done | omega) (by (try rw [c1465]); first | done | omega) (by (try rw [c1467]); first | done | assumption) (by (try rw [c1469]); first | done | assumption) (by (try rw [c1471]); first | done | assumption) (by (try rw [((hS1428.cell ta0 (by decide +kernel)).trans c26)]); first | done | omega)) ?_
              rintro v1485 cn' K' N' I1480 R1481 L1482 ⟨rfl, rfl, rfl, rfl, g1483, dj1486, -⟩
              (try rw [pk_25] at dj1486)
              have hM1487 : NmM I1480 R0 L1422 a1 gQ := NmM.kpS hM1455 g1483 hS1428.1 ta1 (by decide +kernel) (by decide +kernel)
              have hS1488 := hS1428.tr g1483 (by decide +kernel) (by decide +kernel)
              have c1489 : I1480 a1 2 = v37 := (g1483.cell ta1 (by decide +kernel)).trans c1429
              rcases dj1486 with ⟨p1490, p1491, p1492, p1493, p1494, p1495, p1496, p1497, p1498, p1499, p1500, p1501, p1502, p1503, gl1504, -⟩ | ⟨p1505, p1506, p1507, p1508, p1509, -⟩ | ⟨p1510, p1511, p1512, p1513, p1514, p1515, p1516, -⟩ | ⟨p1517, p1518, p1519, p1520, p1521, p1522, p1523, p1524, -⟩
              · skip
                have hL1525 := hL1454.tr gl1504 (by decide +kernel)
                have hM1526 : NmM I1480 R0 L1482 a1 gQ := NmM.kpL hM1487 gl1504 hS1488.1 ta1 (by decide +kernel)
                obtain ⟨v1527, c1528⟩ : ∃ v, I1480 a0 13 = v := ⟨_, rfl⟩
                rw [c1528] at p1496
                rw [c1457] at p1496
                obtain ⟨v1529, c1530⟩ : ∃ v, I1480 a0 9 = v := ⟨_, rfl⟩
                have b1531 := iv15_9 hS1488.1 ta0 c1530
                rw [c1530] at p1497
                rw [c1530] at p1498
                obtain ⟨v1532, c1533⟩ : ∃ v, I1480 a0 10 = v := ⟨_, rfl⟩
                have b1534 := iv15_10 hS1488.1 ta0 c1533
                rw [c1533] at p1499
                obtain ⟨v1535, c1536⟩ : ∃ v, I1480 a0 11 = v := ⟨_, rfl⟩
                rw [c1536] at p1500
                obtain ⟨y1537, c1538⟩ : ∃ v, L1482 a0 15 = v := ⟨_, rfl⟩
                rw [c1538] at p1501
                obtain ⟨v1539, c1540⟩ : ∃ v, I1480 a0 12 = v := ⟨_, rfl⟩
                rw [c1540] at p1502
                obtain ⟨v1541, c1542⟩ : ∃ v, I1480 a0 8 = v := ⟨_, rfl⟩
                have b1543 := iv15_8 hS1488.1 ta0 c1542
                rw [c1542] at p1503
                replace hF := hF.neg (by omega)
                replace hP := hP.neg (by omega)
                replace hF := hF.neg (by omega)
                replace hP := hP.neg (by omega)
                replace hF := hF.neg (by omega)
                replace hP := hP.neg (by omega)
                refine tr_istore dX12_readEvent_86 (by decide) (by decide) ?_
                refine tr_aload_n dX12_readEvent_88 rfl ?_
                refine q_getI dX12_readEvent_89 fl12_99 (kR15 hS1488.1 ta0) c1530 ?_
                refine q_iconst dX12_readEvent_92 (by decide) ?_
                intro v1544 h1545
                refine q_icmp_ne 97 dX12_readEvent_93 (by decide) (fun h1546 => ?_) (fun h1546 => ?_)
                · skip
                  refine tr_aload_n dX12_readEvent_97 rfl ?_
                  refine tr_getR dX12_readEvent_98 fl12_188 (kR15 hS1488.1 ta0) d2 ?_
                  refine q_getI dX12_readEvent_101 fl12_265 (kR14 hS1488.1 ta1) c1489 ?_
                  refine tr_istore dX12_readEvent_104 (by decide) (by decide) ?_
                  refine tr_aload_n dX12_readEvent_106 rfl ?_
                  refine tr_getR dX12_readEvent_107 fl12_188 (kR15 hS1488.1 ta0) d2 ?_
                  obtain ⟨a1547, d1548, ta1547⟩ := rf14_11 hW0 ta1
                  refine tr_getR dX12_readEvent_110 fl12_274 (kR14 hS1488.1 ta1) d1548 ?_
                  refine tr_iload dX12_readEvent_113 rfl ?_
                  refine tr_iload_n dX12_readEvent_115 rfl ?_
                  refine q_iastX dX12_readEvent_116 (kR54 hS1488.1 ta1547) (ti_in (nR54 hS1488.1 ta1547) (by omega) (by omega)) hS1488 ta1547 (by rfl) (hS1488.1.putK (m := a1) ta1 d1548 (by rw [c1489]; exact Int.le_of_eq (ti_nat (by omega)).symm)) ?_
                  intro I1553 hS1554 e1555 f1556
                  have c1557 : I1553 a1 2 = v37 := (f1556 _ _ (fun q => by have z := ta1; rw [q.1, ta1547] at z; exact absurd z (by decide))).trans c1489
                  have c1558 : I1553 a0 13 = v1527 := (f1556 _ _ (fun q => by have z := ta0; rw [q.1, ta1547] at z; exact absurd z (by decide))).trans c1528
                  have c1559 : I1553 a0 9 = v1529 := (f1556 _ _ (fun q => by have z := ta0; rw [q.1, ta1547] at z; exact absurd z (by decide))).trans c1530
                  have c1560 : I1553 a0 10 = v1532 := (f1556 _ _ (fun q => by have z := ta0; rw [q.1, ta1547] at z; exact absurd z (by decide))).trans c1533
                  have c1561 : I1553 a0 11 = v1535 := (f1556 _ _ (fun q => by have z := ta0; rw [q.1, ta1547] at z; exact absurd z (by decide))).trans c1536
                  have c1562 : I1553 a0 12 = v1539 := (f1556 _ _ (fun q => by have z := ta0; rw [q.1, ta1547] at z; exact absurd z (by decide))).trans c1540
                  have c1563 : I1553 a0 8 = v1541 := (f1556 _ _ (fun q => by have z := ta0; rw [q.1, ta1547] at z; exact absurd z (by decide))).trans c1542
                  have hM1564 : NmM I1553 R0 L1482 a1 gQ := NmM.kp1 hM1526 f1556 ta1547 rfl rfl hS1488.1 ta1
                  refine tr_aload_n dX12_readEvent_117 rfl ?_
                  refine tr_getR dX12_readEvent_118 fl12_188 (kR15 hS1554.1 ta0) d2 ?_
                  obtain ⟨a1565, d1566, ta1565⟩ := rf14_12 hW0 ta1
                  refine tr_getR dX12_readEvent_121 fl12_277 (kR14 hS1554.1 ta1) d1566 ?_
                  refine tr_iload dX12_readEvent_124 rfl ?_
                  refine tr_iload_n dX12_readEvent_126 rfl ?_
                  refine q_iastX dX12_readEvent_127 (kR55 hS1554.1 ta1565) (ti_in (nR55 hS1554.1 ta1565) (by omega) (by omega)) hS1554 ta1565 (by rfl) (hS1554.1.putH (m := a1) ta1 d1566 (by rw [c1557]; exact Int.le_of_eq (ti_nat (by omega)).symm) (by omega)) ?_
                  intro I1571 hS1572 e1573 f1574
                  have c1575 : I1571 a1 2 = v37 := (f1574 _ _ (fun q => by have z := ta1; rw [q.1, ta1565] at z; exact absurd z (by decide))).trans c1557
                  have c1576 : I1571 a0 13 = v1527 := (f1574 _ _ (fun q => by have z := ta0; rw [q.1, ta1565] at z; exact absurd z (by decide))).trans c1558
                  have c1577 : I1571 a0 9 = v1529 := (f1574 _ _ (fun q => by have z := ta0; rw [q.1, ta1565] at z; exact absurd z (by decide))).trans c1559
                  have c1578 : I1571 a0 10 = v1532 := (f1574 _ _ (fun q => by have z := ta0; rw [q.1, ta1565] at z; exact absurd z (by decide))).trans c1560
                  have c1579 : I1571 a0 11 = v1535 := (f1574 _ _ (fun q => by have z := ta0; rw [q.1, ta1565] at z; exact absurd z (by decide))).trans c1561
                  have c1580 : I1571 a0 12 = v1539 := (f1574 _ _ (fun q => by have z := ta0; rw [q.1, ta1565] at z; exact absurd z (by decide))).trans c1562
                  have c1581 : I1571 a0 8 = v1541 := (f1574 _ _ (fun q => by have z := ta0; rw [q.1, ta1565] at z; exact absurd z (by decide))).trans c1563
                  have c1582 : I1571 a1547 v37.toNatClampNeg = x1 := (f1574 _ _ (fun q => by have z := ta1547; rw [q.1, ta1565] at z; exact absurd z (by decide))).trans e1555
                  have hM1583 : NmM I1571 R0 L1482 a1 gQ := NmM.kp1 hM1564 f1574 ta1565 rfl rfl hS1554.1 ta1
                  refine tr_aload_n dX12_readEvent_128 rfl ?_
                  refine tr_getR dX12_readEvent_129 fl12_188 (kR15 hS1572.1 ta0) d2 ?_
                  obtain ⟨a1584, d1585, ta1584⟩ := rf14_13 hW0 ta1
                  refine tr_getR dX12_readEvent_132 fl12_280 (kR14 hS1572.1 ta1) d1585 ?_
                  refine tr_iload dX12_readEvent_135 rfl ?_
                  refine tr_iload_n dX12_readEvent_137 rfl ?_
                  refine q_iast dX12_readEvent_138 (kR56 hS1572.1 ta1584) (ti_in (nR56 hS1572.1 ta1584) (by omega) (by omega)) hS1572 ta1584 (by show (0 : Int) ≤ v1425.toInt ∧ v1425.toInt ≤ (240 : Int); omega) rfl (by rfl) ?_
                  intro I1586 hS1587 e1589 f1588
                  have c1590 : I1586 a1 2 = v37 := (f1588 _ _ (fun q => by have z := ta1; rw [q.1, ta1584] at z; exact absurd z (by decide))).trans c1575
                  have c1591 : I1586 a0 13 = v1527 := (f1588 _ _ (fun q => by have z := ta0; rw [q.1, ta1584] at z; exact absurd z (by decide))).trans c1576
                  have c1592 : I1586 a0 9 = v1529 := (f1588 _ _ (fun q => by have z := ta0; rw [q.1, ta1584] at z; exact absurd z (by decide))).trans c1577
                  have c1593 : I1586 a0 10 = v1532 := (f1588 _ _ (fun q => by have z := ta0; rw [q.1, ta1584] at z; exact absurd z (by decide))).trans c1578
                  have c1594 : I1586 a0 11 = v1535 := (f1588 _ _ (fun q => by have z := ta0; rw [q.1, ta1584] at z; exact absurd z (by decide))).trans c1579
                  have c1595 : I1586 a0 12 = v1539 := (f1588 _ _ (fun q => by have z := ta0; rw [q.1, ta1584] at z; exact absurd z (by decide))).trans c1580
                  have c1596 : I1586 a0 8 = v1541 := (f1588 _ _ (fun q => by have z := ta0; rw [q.1, ta1584] at z; exact absurd z (by decide))).trans c1581
                  have c1597 : I1586 a1547 v37.toNatClampNeg = x1 := (f1588 _ _ (fun q => by have z := ta1547; rw [q.1, ta1584] at z; exact absurd z (by decide))).trans c1582
                  have c1598 : I1586 a1565 v37.toNatClampNeg = v1366 := (f1588 _ _ (fun q => by have z := ta1565; rw [q.1, ta1584] at z; exact absurd z (by decide))).trans e1573
                  have hM1599 : NmM I1586 R0 L1482 a1 gQ := NmM.kp1 hM1583 f1588 ta1584 rfl rfl hS1572.1 ta1
                  refine tr_aload_n dX12_readEvent_139 rfl ?_
                  refine tr_getR dX12_readEvent_140 fl12_188 (kR15 hS1587.1 ta0) d2 ?_
                  obtain ⟨a1600, d1601, ta1600⟩ := rf14_14 hW0 ta1
                  refine tr_getR dX12_readEvent_143 fl12_283 (kR14 hS1587.1 ta1) d1601 ?_
                  refine tr_iload dX12_readEvent_146 rfl ?_
                  refine tr_iload dX12_readEvent_148 rfl ?_
                  refine q_iast dX12_readEvent_150 (kR57 hS1587.1 ta1600) (ti_in (nR57 hS1587.1 ta1600) (by omega) (by omega)) hS1587 ta1600 (by show (0 : Int) ≤ v1485.toInt ∧ v1485.toInt ≤ (240 : Int); omega) rfl (by rfl) ?_
                  intro I1602 hS1603 e1605 f1604
                  have c1606 : I1602 a1 2 = v37 := (f1604 _ _ (fun q => by have z := ta1; rw [q.1, ta1600] at z; exact absurd z (by decide))).trans c1590
                  have c1607 : I1602 a0 13 = v1527 := (f1604 _ _ (fun q => by have z := ta0; rw [q.1, ta1600] at z; exact absurd z (by decide))).trans c1591
                  have c1608 : I1602 a0 9 = v1529 := (f1604 _ _ (fun q => by have z := ta0; rw [q.1, ta1600] at z; exact absurd z (by decide))).trans c1592
                  have c1609 : I1602 a0 10 = v1532 := (f1604 _ _ (fun q => by have z := ta0; rw [q.1, ta1600] at z; exact absurd z (by decide))).trans c1593
                  have c1610 : I1602 a0 11 = v1535 := (f1604 _ _ (fun q => by have z := ta0; rw [q.1, ta1600] at z; exact absurd z (by decide))).trans c1594
                  have c1611 : I1602 a0 12 = v1539 := (f1604 _ _ (fun q => by have z := ta0; rw [q.1, ta1600] at z; exact absurd z (by decide))).trans c1595
                  have c1612 : I1602 a0 8 = v1541 := (f1604 _ _ (fun q => by have z := ta0; rw [q.1, ta1600] at z; exact absurd z (by decide))).trans c1596
                  have c1613 : I1602 a1547 v37.toNatClampNeg = x1 := (f1604 _ _ (fun q => by have z := ta1547; rw [q.1, ta1600] at z; exact absurd z (by decide))).trans c1597
                  have c1614 : I1602 a1565 v37.toNatClampNeg = v1366 := (f1604 _ _ (fun q => by have z := ta1565; rw [q.1, ta1600] at z; exact absurd z (by decide))).trans c1598
                  have hM1615 : NmM I1602 R0 L1482 a1 gQ := NmM.kp1 hM1599 f1604 ta1600 rfl rfl hS1587.1 ta1
                  refine tr_aload_n dX12_readEvent_151 rfl ?_
                  refine tr_getR dX12_readEvent_152 fl12_188 (kR15 hS1603.1 ta0) d2 ?_
                  refine tr_dup dX12_readEvent_155 rfl ?_
                  refine q_getI dX12_readEvent_156 fl12_265 (kR14 hS1603.1 ta1) c1606 ?_
                  refine q_iconst dX12_readEvent_159 (by decide) ?_
                  intro v1616 h1617
                  refine q_iaddE dX12_readEvent_160 (by intros; omega) ?_
                  intro v1618 h1619
                  refine q_putX dX12_readEvent_161 fl12_265 (kR14 hS1603.1 ta1) (Or.inl rfl) hS1603 ta1 (by decide +kernel) (hS1603.1.putE (i := v37.toNatClampNeg) ta1 d1548 d1566 (by rw [c1606]; exact (ti_nat (by omega)).symm) (by rw [c1606]; omega) (by omega) (by rw [c1613, c1614]; omega)) ?_
                  intro I1620 hS1621 e1622 f1623
                  have c1624 : I1620 a0 13 = v1527 := (f1623 _ _ (fun q => absurd q.2 (by decide))).trans c1607
                  have c1625 : I1620 a0 9 = v1529 := (f1623 _ _ (fun q => absurd q.2 (by decide))).trans c1608
                  have c1626 : I1620 a0 10 = v1532 := (f1623 _ _ (fun q => absurd q.2 (by decide))).trans c1609
                  have c1627 : I1620 a0 11 = v1535 := (f1623 _ _ (fun q => absurd q.2 (by decide))).trans c1610
                  have c1628 : I1620 a0 12 = v1539 := (f1623 _ _ (fun q => absurd q.2 (by decide))).trans c1611
                  have c1629 : I1620 a0 8 = v1541 := (f1623 _ _ (fun q => absurd q.2 (by decide))).trans c1612
                  have c1630 : I1620 a1547 v37.toNatClampNeg = x1 := (f1623 _ _ (fun q => by have z := ta1547; rw [q.1, ta1] at z; exact absurd z (by decide))).trans c1613
                  have c1631 : I1620 a1565 v37.toNatClampNeg = v1366 := (f1623 _ _ (fun q => by have z := ta1565; rw [q.1, ta1] at z; exact absurd z (by decide))).trans c1614
                  have hM1632 : NmM I1620 R0 L1482 a1 gQ := NmM.kp1 hM1615 f1623 ta1 rfl rfl hS1603.1 ta1
                  have eF := hF.eq
                  have eP := hP.eq
                  have es1633 := evS_c2 (B := gB) (Q := gQ) (k := srt gB gs) (s := (tkN gB gs)) (by omega)
                  obtain ⟨v1634, c1635⟩ : ∃ v, I1620 a0 14 = v := ⟨_, rfl⟩
                  exact tr_vret hZ dX12_readEvent_164 rfl (by decide) (by decide) ⟨rfl, rfl, rfl, rfl, rfl, hS1621, (Or.inl ⟨(by (try rw [w1342]); (try rw [es1633]); first | done | omega), (fun q0 z0 => by obtain rfl := Option.some.inj ((d2).symm.trans z0); (try rw [w1342]); (try rw [es1633]); (try rw [((hS1621.cell ta1 (by decide +kernel)).trans c30)]); first | done | omega), (fun q0 z0 => by obtain rfl := Option.some.inj ((d2).symm.trans z0); (try rw [w1342]); (try rw [es1633]); (try rw [((hS1621.cell ta1 (by decide +kernel)).trans c34)]); first | done | omega), (fun q0 z0 => by obtain rfl := Option.some.inj ((d2).symm.trans z0); (try rw [w1342]); (try rw [es1633]); (try rw [e1622]); first | done | omega), (fun q0 z0 => by obtain rfl := Option.some.inj ((d2).symm.trans z0); (try rw [w1342]); (try rw [es1633]); (try rw [((hS1621.cell ta1 (by decide +kernel)).trans c42)]); first | done | omega), (fun q0 z0 => by obtain rfl := Option.some.inj ((d2).symm.trans z0); (try rw [w1342]); (try rw [es1633]); (try rw [((hS1621.cell ta1 (by decide +kernel)).trans c46)]); first | done | omega), (fun q0 z0 => by obtain rfl := Option.some.inj ((d2).symm.trans z0); (try rw [w1342]); (try rw [es1633]); (try rw [((hS1621.cell ta1 (by decide +kernel)).trans c50)]); first | done | omega), (fun q0 z0 => by obtain rfl := Option.some.inj ((d2).symm.trans z0); (try rw [w1342]); (try rw [es1633]); (try rw [((hS1621.cell ta1 (by decide +kernel)).trans c54)]); first | done | omega), (fun q0 z0 => by obtain rfl := Option.some.inj ((d2).symm.trans z0); (try rw [w1342]); (try rw [es1633]); (try rw [((hS1621.cell ta1 (by decide +kernel)).trans c58)]); first | done | omega), (by (try rw [w1342]); (try rw [es1633]); (try rw [c1624]); (try rw [c65]); first | done | omega), (by (try rw [w1342]); (try rw [es1633]); (try rw [c1625]); first | done | omega), (by (try rw [w1342]); (try rw [es1633]); (try rw [c1625]); first | done | omega), (by (try rw [w1342]); (try rw [es1633]); (try rw [c1626]); first | done | omega), (by (try rw [w1342]); (try rw [es1633]); (try rw [c1627]); first | done | omega), (by (try rw [w1342]); (try rw [es1633]); (try rw [c1538]); first | done | assumption), (by (try rw [w1342]); (try rw [es1633]); (try rw [c1628]); first | done | assumption), (by (try rw [w1342]); (try rw [es1633]); (try rw [c1629]); first | done | assumption), hL1525, (fun b hb => (Option.some.inj (d2.symm.trans hb)) ▸ NmM.ln (NmM.bd (k := srt gB gs) hM1632 (by omega) (by omega)) rfl), trivial⟩), trivial⟩
                · skip
                  exfalso; omega
              · skip
                obtain ⟨v1636, c1637⟩ : ∃ v, I1480 a0 9 = v := ⟨_, rfl⟩
                have b1638 := iv15_9 hS1488.1 ta0 c1637
                rw [c1637] at p1507
                obtain ⟨v1639, c1640⟩ : ∃ v, I1480 a0 13 = v := ⟨_, rfl⟩
                rw [c1640] at p1508
                obtain ⟨v1641, c1642⟩ : ∃ v, I1480 a0 14 = v := ⟨_, rfl⟩
                rw [c1642] at p1509
                replace hF := hF.pos (by omega)
                replace hP := hP.pos (by omega)
                refine tr_istore dX12_readEvent_86 (by decide) (by decide) ?_
                refine tr_aload_n dX12_readEvent_88 rfl ?_
                refine q_getI dX12_readEvent_89 fl12_99 (kR15 hS1488.1 ta0) c1637 ?_
                refine q_iconst dX12_readEvent_92 (by decide) ?_
                intro v1643 h1644
                refine q_icmp_ne 97 dX12_readEvent_93 (by decide) (fun h1645 => ?_) (fun h1645 => ?_)
                · skip
                  exfalso; omega
                · skip
                  have eF := hF.eq
                  have eP := hP.eq
                  obtain ⟨v1646, c1647⟩ : ∃ v, I1480 a0 10 = v := ⟨_, rfl⟩
                  have b1648 := iv15_10 hS1488.1 ta0 c1647
                  obtain ⟨v1649, c1650⟩ : ∃ v, I1480 a0 11 = v := ⟨_, rfl⟩
                  obtain ⟨y1651, c1652⟩ : ∃ v, L1482 a0 15 = v := ⟨_, rfl⟩
                  obtain ⟨v1653, c1654⟩ : ∃ v, I1480 a0 12 = v := ⟨_, rfl⟩
                  obtain ⟨v1655, c1656⟩ : ∃ v, I1480 a0 8 = v := ⟨_, rfl⟩
                  have b1657 := iv15_8 hS1488.1 ta0 c1656
                  exact tr_vret hZ dX12_readEvent_96 rfl (by decide) (by decide) ⟨rfl, rfl, rfl, rfl, rfl, hS1488, (Or.inr (⟨(by (try rw [w1342]); first | done | omega), (by (try rw [w1342]); (try rw [c1637]); first | done | omega), (by (try rw [w1342]); (try rw [c1640]); first | done | omega), (by (try rw [w1342]); (try rw [c1642]); first | done | omega), trivial⟩)), trivial⟩
              · skip
                obtain ⟨v1658, c1659⟩ : ∃ v, I1480 a0 9 = v := ⟨_, rfl⟩
                have b1660 := iv15_9 hS1488.1 ta0 c1659
                rw [c1659] at p1514
                obtain ⟨v1661, c1662⟩ : ∃ v, I1480 a0 13 = v := ⟨_, rfl⟩
                rw [c1662] at p1515
                obtain ⟨v1663, c1664⟩ : ∃ v, I1480 a0 14 = v := ⟨_, rfl⟩
                rw [c1664] at p1516
                replace hF := hF.neg (by omega)
                replace hP := hP.neg (by omega)
                replace hF := hF.pos (by omega)
                replace hP := hP.pos (by omega)
                refine tr_istore dX12_readEvent_86 (by decide) (by decide) ?_
                refine tr_aload_n dX12_readEvent_88 rfl ?_
                refine q_getI dX12_readEvent_89 fl12_99 (kR15 hS1488.1 ta0) c1659 ?_
                refine q_iconst dX12_readEvent_92 (by decide) ?_
                intro v1665 h1666
                refine q_icmp_ne 97 dX12_readEvent_93 (by decide) (fun h1667 => ?_) (fun h1667 => ?_)
                · skip
                  exfalso; omega
                · skip
                  have eF := hF.eq
                  have eP := hP.eq
                  obtain ⟨v1668, c1669⟩ : ∃ v, I1480 a0 10 = v := ⟨_, rfl⟩
                  have b1670 := iv15_10 hS1488.1 ta0 c1669
                  obtain ⟨v1671, c1672⟩ : ∃ v, I1480 a0 11 = v := ⟨_, rfl⟩
                  obtain ⟨y1673, c1674⟩ : ∃ v, L1482 a0 15 = v := ⟨_, rfl⟩
                  obtain ⟨v1675, c1676⟩ : ∃ v, I1480 a0 12 = v := ⟨_, rfl⟩
                  obtain ⟨v1677, c1678⟩ : ∃ v, I1480 a0 8 = v := ⟨_, rfl⟩
                  have b1679 := iv15_8 hS1488.1 ta0 c1678
                  exact tr_vret hZ dX12_readEvent_96 rfl (by decide) (by decide) ⟨rfl, rfl, rfl, rfl, rfl, hS1488, (Or.inr (⟨(by (try rw [w1342]); first | done | omega), (by (try rw [w1342]); (try rw [c1659]); first | done | omega), (by (try rw [w1342]); (try rw [c1662]); first | done | omega), (by (try rw [w1342]); (try rw [c1664]); first | done | omega), trivial⟩)), trivial⟩
              · skip
                obtain ⟨v1680, c1681⟩ : ∃ v, I1480 a0 9 = v := ⟨_, rfl⟩
                have b1682 := iv15_9 hS1488.1 ta0 c1681
                rw [c1681] at p1522
                obtain ⟨v1683, c1684⟩ : ∃ v, I1480 a0 13 = v := ⟨_, rfl⟩
                rw [c1684] at p1523
                obtain ⟨v1685, c1686⟩ : ∃ v, I1480 a0 14 = v := ⟨_, rfl⟩
                rw [c1686] at p1524
                replace hF := hF.neg (by omega)
                replace hP := hP.neg (by omega)
                replace hF := hF.neg (by omega)
                replace hP := hP.neg (by omega)
                replace hF := hF.pos (by omega)
                replace hP := hP.pos (by omega)
                refine tr_istore dX12_readEvent_86 (by decide) (by decide) ?_
                refine tr_aload_n dX12_readEvent_88 rfl ?_
                refine q_getI dX12_readEvent_89 fl12_99 (kR15 hS1488.1 ta0) c1681 ?_
                refine q_iconst dX12_readEvent_92 (by decide) ?_
                intro v1687 h1688
                refine q_icmp_ne 97 dX12_readEvent_93 (by decide) (fun h1689 => ?_) (fun h1689 => ?_)
                · skip
                  exfalso; omega
                · skip
                  have eF := hF.eq
                  have eP := hP.eq
                  obtain ⟨v1690, c1691⟩ : ∃ v, I1480 a0 10 = v := ⟨_, rfl⟩
                  have b1692 := iv15_10 hS1488.1 ta0 c1691
                  obtain ⟨v1693, c1694⟩ : ∃ v, I1480 a0 11 = v := ⟨_, rfl⟩
                  obtain ⟨y1695, c1696⟩ : ∃ v, L1482 a0 15 = v := ⟨_, rfl⟩
                  obtain ⟨v1697, c1698⟩ : ∃ v, I1480 a0 12 = v := ⟨_, rfl⟩
                  obtain ⟨v1699, c1700⟩ : ∃ v, I1480 a0 8 = v := ⟨_, rfl⟩
                  have b1701 := iv15_8 hS1488.1 ta0 c1700
                  exact tr_vret hZ dX12_readEvent_96 rfl (by decide) (by decide) ⟨rfl, rfl, rfl, rfl, rfl, hS1488, (Or.inr (⟨(by (try rw [w1342]); first | done | omega), (by (try rw [w1342]); (try rw [c1681]); first | done | omega), (by (try rw [w1342]); (try rw [c1684]); first | done | omega), (by (try rw [w1342]); (try rw [c1686]); first | done | omega), trivial⟩)), trivial⟩
            · skip
              exfalso; omega
          · skip
            obtain ⟨v1702, c1703⟩ : ∃ v, I1420 a0 9 = v := ⟨_, rfl⟩
            have b1704 := iv15_9 hS1428.1 ta0 c1703
            rw [c1703] at p1445
            obtain ⟨v1705, c1706⟩ : ∃ v, I1420 a0 13 = v := ⟨_, rfl⟩
            rw [c1706] at p1446
            obtain ⟨v1707, c1708⟩ : ∃ v, I1420 a0 14 = v := ⟨_, rfl⟩
            rw [c1708] at p1447
            replace hF := hF.pos (by omega)
            replace hP := hP.pos (by omega)
            refine tr_istore_n dX12_readEvent_57 (by decide) (by decide) ?_
            refine tr_iload_n dX12_readEvent_58 rfl ?_
            refine q_iconst dX12_readEvent_59 (by decide) ?_
            intro v1709 h1710
            refine q_icmp_ne 69 dX12_readEvent_60 (by decide) (fun h1711 => ?_) (fun h1711 => ?_)
            · skip
              refine tr_aload_n dX12_readEvent_69 rfl ?_
              refine tr_ldcwS dX12_readEvent_70 ld12_272 ?_
              refine tr_iload_n dX12_readEvent_73 rfl ?_
              refine q_iconst dX12_readEvent_74 (by decide) ?_
              intro v1712 h1713
              refine q_iaddE dX12_readEvent_75 (by intros; omega) ?_
              intro v1714 h1715
              refine tr_aload_n dX12_readEvent_76 rfl ?_
              refine tr_getR dX12_readEvent_77 fl12_188 (kR15 hS1428.1 ta0) d2 ?_
              refine q_getI dX12_readEvent_80 fl12_192 (kR14 hS1428.1 ta1) ((hS1428.cell ta1 (by decide +kernel)).trans c30) ?_
              refine q_callVi hE (M' := mX12_readPart) (as := [_, _, _]) dX12_readEvent_83 lk12_249 inX12_readPart seX12_readPart myX12_readPart (by decide) ⟨by decide, by decide⟩ rfl (kR15 hS1428.1 ta0) (Nat.le_of_ble_eq_true rfl) rfl rfl (by decide) (by decide) (k_X12_readPart hS1428.1 ta0 (by decide)) ?_
              rintro v1720 cn' K' N' I1716 R1717 L1718 ⟨rfl, rfl, rfl, rfl, g1719, p1721, w1722, -⟩
              have hS1723 := hS1428.tr g1719 (by decide +kernel) (by decide +kernel)
              have c1724 : I1716 a1 2 = v37 := (g1719.cell ta1 (by decide +kernel)).trans c1429
              have b1725 : 1 ≤ v1720.toInt ∧ v1720.toInt ≤ 240 := by omega
              clear p1721
              have ov1726 := w1722.over (by rw [c1703]; omega)
              obtain ⟨v1727, c1728⟩ : ∃ v, I1716 a0 9 = v := ⟨_, rfl⟩
              have b1729 := iv15_9 hS1723.1 ta0 c1728
              obtain ⟨v1730, c1731⟩ : ∃ v, I1716 a0 13 = v := ⟨_, rfl⟩
              obtain ⟨v1732, c1733⟩ : ∃ v, I1716 a0 14 = v := ⟨_, rfl⟩
              (try rw [c1728] at ov1726)
              (try rw [c1731] at ov1726)
              (try rw [c1733] at ov1726)
              (try rw [c1703] at ov1726)
              (try rw [c1706] at ov1726)
              (try rw [c1708] at ov1726)
              refine tr_istore dX12_readEvent_86 (by decide) (by decide) ?_
              refine tr_aload_n dX12_readEvent_88 rfl ?_
              refine q_getI dX12_readEvent_89 fl12_99 (kR15 hS1723.1 ta0) c1728 ?_
              refine q_iconst dX12_readEvent_92 (by decide) ?_
              intro v1734 h1735
              refine q_icmp_ne 97 dX12_readEvent_93 (by decide) (fun h1736 => ?_) (fun h1736 => ?_)
              · skip
                exfalso; omega
              · skip
                have eF := hF.eq
                have eP := hP.eq
                obtain ⟨v1737, c1738⟩ : ∃ v, I1716 a0 10 = v := ⟨_, rfl⟩
                have b1739 := iv15_10 hS1723.1 ta0 c1738
                obtain ⟨v1740, c1741⟩ : ∃ v, I1716 a0 11 = v := ⟨_, rfl⟩
                obtain ⟨y1742, c1743⟩ : ∃ v, L1718 a0 15 = v := ⟨_, rfl⟩
                obtain ⟨v1744, c1745⟩ : ∃ v, I1716 a0 12 = v := ⟨_, rfl⟩
                obtain ⟨v1746, c1747⟩ : ∃ v, I1716 a0 8 = v := ⟨_, rfl⟩
                have b1748 := iv15_8 hS1723.1 ta0 c1747
                exact tr_vret hZ dX12_readEvent_96 rfl (by decide) (by decide) ⟨rfl, rfl, rfl, rfl, rfl, hS1723, (Or.inr (⟨(by (try rw [w1342]); first | done | omega), (by (try rw [w1342]); (try rw [c1728]); first | done | omega), (by (try rw [w1342]); (try rw [c1731]); first | done | omega), (by (try rw [w1342]); (try rw [c1733]); first | done | omega), trivial⟩)), trivial⟩
            · skip
              exfalso; omega
          · skip
            obtain ⟨v1749, c1750⟩ : ∃ v, I1420 a0 9 = v := ⟨_, rfl⟩
            have b1751 := iv15_9 hS1428.1 ta0 c1750
            rw [c1750] at p1451
            obtain ⟨v1752, c1753⟩ : ∃ v, I1420 a0 13 = v := ⟨_, rfl⟩
            rw [c1753] at p1452
            obtain ⟨v1754, c1755⟩ : ∃ v, I1420 a0 14 = v := ⟨_, rfl⟩
            rw [c1755] at p1453
            replace hF := hF.neg (by omega)
            replace hP := hP.neg (by omega)
            replace hF := hF.pos (by omega)
            replace hP := hP.pos (by omega)
            refine tr_istore_n dX12_readEvent_57 (by decide) (by decide) ?_
            refine tr_iload_n dX12_readEvent_58 rfl ?_
            refine q_iconst dX12_readEvent_59 (by decide) ?_
            intro v1756 h1757
            refine q_icmp_ne 69 dX12_readEvent_60 (by decide) (fun h1758 => ?_) (fun h1758 => ?_)
            · skip
              refine tr_aload_n dX12_readEvent_69 rfl ?_
              refine tr_ldcwS dX12_readEvent_70 ld12_272 ?_
              refine tr_iload_n dX12_readEvent_73 rfl ?_
              refine q_iconst dX12_readEvent_74 (by decide) ?_
              intro v1759 h1760
              refine q_iaddE dX12_readEvent_75 (by intros; omega) ?_
              intro v1761 h1762
              refine tr_aload_n dX12_readEvent_76 rfl ?_
              refine tr_getR dX12_readEvent_77 fl12_188 (kR15 hS1428.1 ta0) d2 ?_
              refine q_getI dX12_readEvent_80 fl12_192 (kR14 hS1428.1 ta1) ((hS1428.cell ta1 (by decide +kernel)).trans c30) ?_
              refine q_callVi hE (M' := mX12_readPart) (as := [_, _, _]) dX12_readEvent_83 lk12_249 inX12_readPart seX12_readPart myX12_readPart (by decide) ⟨by decide, by decide⟩ rfl (kR15 hS1428.1 ta0) (Nat.le_of_ble_eq_true rfl) rfl rfl (by decide) (by decide) (k_X12_readPart hS1428.1 ta0 (by decide)) ?_
              rintro v1767 cn' K' N' I1763 R1764 L1765 ⟨rfl, rfl, rfl, rfl, g1766, p1768, w1769, -⟩
              have hS1770 := hS1428.tr g1766 (by decide +kernel) (by decide +kernel)
              have c1771 : I1763 a1 2 = v37 := (g1766.cell ta1 (by decide +kernel)).trans c1429
              have b1772 : 1 ≤ v1767.toInt ∧ v1767.toInt ≤ 240 := by omega
              clear p1768
              have ov1773 := w1769.over (by rw [c1750]; omega)
              obtain ⟨v1774, c1775⟩ : ∃ v, I1763 a0 9 = v := ⟨_, rfl⟩
              have b1776 := iv15_9 hS1770.1 ta0 c1775
              obtain ⟨v1777, c1778⟩ : ∃ v, I1763 a0 13 = v := ⟨_, rfl⟩
              obtain ⟨v1779, c1780⟩ : ∃ v, I1763 a0 14 = v := ⟨_, rfl⟩
              (try rw [c1775] at ov1773)
              (try rw [c1778] at ov1773)
              (try rw [c1780] at ov1773)
              (try rw [c1750] at ov1773)
              (try rw [c1753] at ov1773)
              (try rw [c1755] at ov1773)
              refine tr_istore dX12_readEvent_86 (by decide) (by decide) ?_
              refine tr_aload_n dX12_readEvent_88 rfl ?_
              refine q_getI dX12_readEvent_89 fl12_99 (kR15 hS1770.1 ta0) c1775 ?_
              refine q_iconst dX12_readEvent_92 (by decide) ?_
              intro v1781 h1782
              refine q_icmp_ne 97 dX12_readEvent_93 (by decide) (fun h1783 => ?_) (fun h1783 => ?_)
              · skip
                exfalso; omega
              · skip
                have eF := hF.eq
                have eP := hP.eq
                obtain ⟨v1784, c1785⟩ : ∃ v, I1763 a0 10 = v := ⟨_, rfl⟩
                have b1786 := iv15_10 hS1770.1 ta0 c1785
                obtain ⟨v1787, c1788⟩ : ∃ v, I1763 a0 11 = v := ⟨_, rfl⟩
                obtain ⟨y1789, c1790⟩ : ∃ v, L1765 a0 15 = v := ⟨_, rfl⟩
                obtain ⟨v1791, c1792⟩ : ∃ v, I1763 a0 12 = v := ⟨_, rfl⟩
                obtain ⟨v1793, c1794⟩ : ∃ v, I1763 a0 8 = v := ⟨_, rfl⟩
                have b1795 := iv15_8 hS1770.1 ta0 c1794
                exact tr_vret hZ dX12_readEvent_96 rfl (by decide) (by decide) ⟨rfl, rfl, rfl, rfl, rfl, hS1770, (Or.inr (⟨(by (try rw [w1342]); first | done | omega), (by (try rw [w1342]); (try rw [c1775]); first | done | omega), (by (try rw [w1342]); (try rw [c1778]); first | done | omega), (by (try rw [w1342]); (try rw [c1780]); first | done | omega), trivial⟩)), trivial⟩
            · skip
              exfalso; omega
        · skip
          obtain ⟨v1796, c1797⟩ : ∃ v, I1361 a0 9 = v := ⟨_, rfl⟩
          have b1798 := iv15_9 hS1369.1 ta0 c1797
          rw [c1797] at p1386
          obtain ⟨v1799, c1800⟩ : ∃ v, I1361 a0 13 = v := ⟨_, rfl⟩
          rw [c1800] at p1387
          obtain ⟨v1801, c1802⟩ : ∃ v, I1361 a0 14 = v := ⟨_, rfl⟩
          rw [c1802] at p1388
          replace hF := hF.pos (by omega)
          replace hP := hP.pos (by omega)
          refine tr_goto 42 dX12_readEvent_37 (by decide) ?_
          refine tr_istore_n dX12_readEvent_42 (by decide) (by decide) ?_
          refine tr_aload_n dX12_readEvent_43 rfl ?_
          refine q_iconst dX12_readEvent_44 (by decide) ?_
          intro v1803 h1804
          refine tr_aload_n dX12_readEvent_45 rfl ?_
          refine tr_getR dX12_readEvent_46 fl12_188 (kR15 hS1369.1 ta0) d2 ?_
          refine q_getI dX12_readEvent_49 fl12_192 (kR14 hS1369.1 ta1) ((hS1369.cell ta1 (by decide +kernel)).trans c30) ?_
          refine q_iconst dX12_readEvent_52 (by decide) ?_
          intro v1805 h1806
          refine q_isubE dX12_readEvent_53 (by intros; omega) ?_
          intro v1807 h1808
          refine q_callVi hE (M' := mX12_readWhole) (as := [_, _]) dX12_readEvent_54 lk12_161 inX12_readWhole seX12_readWhole myX12_readWhole (by decide) ⟨by decide, by decide⟩ rfl (kR15 hS1369.1 ta0) (Nat.le_of_ble_eq_true rfl) rfl rfl (by decide) (by decide) (k_X12_readWhole hS1369.1 ta0) ?_
          rintro v1813 cn' K' N' I1809 R1810 L1811 ⟨rfl, rfl, rfl, rfl, g1812, p1814, w1815, -⟩
          have hS1816 := hS1369.tr g1812 (by decide +kernel) (by decide +kernel)
          have c1817 : I1809 a1 2 = v37 := (g1812.cell ta1 (by decide +kernel)).trans c1370
          have b1818 : 0 ≤ v1813.toInt ∧ v1813.toInt ≤ 239 := by omega
          clear p1814
          have ov1819 := w1815.over (by rw [c1797]; omega)
          obtain ⟨v1820, c1821⟩ : ∃ v, I1809 a0 9 = v := ⟨_, rfl⟩
          have b1822 := iv15_9 hS1816.1 ta0 c1821
          obtain ⟨v1823, c1824⟩ : ∃ v, I1809 a0 13 = v := ⟨_, rfl⟩
          obtain ⟨v1825, c1826⟩ : ∃ v, I1809 a0 14 = v := ⟨_, rfl⟩
          (try rw [c1821] at ov1819)
          (try rw [c1824] at ov1819)
          (try rw [c1826] at ov1819)
          (try rw [c1797] at ov1819)
          (try rw [c1800] at ov1819)
          (try rw [c1802] at ov1819)
          refine tr_istore_n dX12_readEvent_57 (by decide) (by decide) ?_
          refine tr_iload_n dX12_readEvent_58 rfl ?_
          refine q_iconst dX12_readEvent_59 (by decide) ?_
          intro v1827 h1828
          refine q_icmp_ne 69 dX12_readEvent_60 (by decide) (fun h1829 => ?_) (fun h1829 => ?_)
          · skip
            refine tr_aload_n dX12_readEvent_69 rfl ?_
            refine tr_ldcwS dX12_readEvent_70 ld12_272 ?_
            refine tr_iload_n dX12_readEvent_73 rfl ?_
            refine q_iconst dX12_readEvent_74 (by decide) ?_
            intro v1830 h1831
            refine q_iaddE dX12_readEvent_75 (by intros; omega) ?_
            intro v1832 h1833
            refine tr_aload_n dX12_readEvent_76 rfl ?_
            refine tr_getR dX12_readEvent_77 fl12_188 (kR15 hS1816.1 ta0) d2 ?_
            refine q_getI dX12_readEvent_80 fl12_192 (kR14 hS1816.1 ta1) ((hS1816.cell ta1 (by decide +kernel)).trans c30) ?_
            refine q_callVi hE (M' := mX12_readPart) (as := [_, _, _]) dX12_readEvent_83 lk12_249 inX12_readPart seX12_readPart myX12_readPart (by decide) ⟨by decide, by decide⟩ rfl (kR15 hS1816.1 ta0) (Nat.le_of_ble_eq_true rfl) rfl rfl (by decide) (by decide) (k_X12_readPart hS1816.1 ta0 (by decide)) ?_
            rintro v1838 cn' K' N' I1834 R1835 L1836 ⟨rfl, rfl, rfl, rfl, g1837, p1839, w1840, -⟩
            have hS1841 := hS1816.tr g1837 (by decide +kernel) (by decide +kernel)
            have c1842 : I1834 a1 2 = v37 := (g1837.cell ta1 (by decide +kernel)).trans c1817
            have b1843 : 1 ≤ v1838.toInt ∧ v1838.toInt ≤ 240 := by omega
            clear p1839
            have ov1844 := w1840.over (by rw [c1821]; omega)
            obtain ⟨v1845, c1846⟩ : ∃ v, I1834 a0 9 = v := ⟨_, rfl⟩
            have b1847 := iv15_9 hS1841.1 ta0 c1846
            obtain ⟨v1848, c1849⟩ : ∃ v, I1834 a0 13 = v := ⟨_, rfl⟩
            obtain ⟨v1850, c1851⟩ : ∃ v, I1834 a0 14 = v := ⟨_, rfl⟩
            (try rw [c1846] at ov1844)
            (try rw [c1849] at ov1844)
            (try rw [c1851] at ov1844)
            (try rw [c1821] at ov1844)
            (try rw [c1824] at ov1844)
            (try rw [c1826] at ov1844)
            refine tr_istore dX12_readEvent_86 (by decide) (by decide) ?_
            refine tr_aload_n dX12_readEvent_88 rfl ?_
            refine q_getI dX12_readEvent_89 fl12_99 (kR15 hS1841.1 ta0) c1846 ?_
            refine q_iconst dX12_readEvent_92 (by decide) ?_
            intro v1852 h1853
            refine q_icmp_ne 97 dX12_readEvent_93 (by decide) (fun h1854 => ?_) (fun h1854 => ?_)
            · skip
              exfalso; omega
            · skip
              have eF := hF.eq
              have eP := hP.eq
              obtain ⟨v1855, c1856⟩ : ∃ v, I1834 a0 10 = v := ⟨_, rfl⟩
              have b1857 := iv15_10 hS1841.1 ta0 c1856
              obtain ⟨v1858, c1859⟩ : ∃ v, I1834 a0 11 = v := ⟨_, rfl⟩
              obtain ⟨y1860, c1861⟩ : ∃ v, L1836 a0 15 = v := ⟨_, rfl⟩
              obtain ⟨v1862, c1863⟩ : ∃ v, I1834 a0 12 = v := ⟨_, rfl⟩
              obtain ⟨v1864, c1865⟩ : ∃ v, I1834 a0 8 = v := ⟨_, rfl⟩
              have b1866 := iv15_8 hS1841.1 ta0 c1865
              exact tr_vret hZ dX12_readEvent_96 rfl (by decide) (by decide) ⟨rfl, rfl, rfl, rfl, rfl, hS1841, (Or.inr (⟨(by (try rw [w1342]); first | done | omega), (by (try rw [w1342]); (try rw [c1846]); first | done | omega), (by (try rw [w1342]); (try rw [c1849]); first | done | omega), (by (try rw [w1342]); (try rw [c1851]); first | done | omega), trivial⟩)), trivial⟩
          · skip
            exfalso; omega
        · skip
          obtain ⟨v1867, c1868⟩ : ∃ v, I1361 a0 9 = v := ⟨_, rfl⟩
          have b1869 := iv15_9 hS1369.1 ta0 c1868
          rw [c1868] at p1392
          obtain ⟨v1870, c1871⟩ : ∃ v, I1361 a0 13 = v := ⟨_, rfl⟩
          rw [c1871] at p1393
          obtain ⟨v1872, c1873⟩ : ∃ v, I1361 a0 14 = v := ⟨_, rfl⟩
          rw [c1873] at p1394
          replace hF := hF.neg (by omega)
          replace hP := hP.neg (by omega)
          replace hF := hF.pos (by omega)
          replace hP := hP.pos (by omega)
          refine tr_goto 42 dX12_readEvent_37 (by decide) ?_
          refine tr_istore_n dX12_readEvent_42 (by decide) (by decide) ?_
          refine tr_aload_n dX12_readEvent_43 rfl ?_
          refine q_iconst dX12_readEvent_44 (by decide) ?_
          intro v1874 h1875
          refine tr_aload_n dX12_readEvent_45 rfl ?_
          refine tr_getR dX12_readEvent_46 fl12_188 (kR15 hS1369.1 ta0) d2 ?_
          refine q_getI dX12_readEvent_49 fl12_192 (kR14 hS1369.1 ta1) ((hS1369.cell ta1 (by decide +kernel)).trans c30) ?_
          refine q_iconst dX12_readEvent_52 (by decide) ?_
          intro v1876 h1877
          refine q_isubE dX12_readEvent_53 (by intros; omega) ?_
          intro v1878 h1879
          refine q_callVi hE (M' := mX12_readWhole) (as := [_, _]) dX12_readEvent_54 lk12_161 inX12_readWhole seX12_readWhole myX12_readWhole (by decide) ⟨by decide, by decide⟩ rfl (kR15 hS1369.1 ta0) (Nat.le_of_ble_eq_true rfl) rfl rfl (by decide) (by decide) (k_X12_readWhole hS1369.1 ta0) ?_
          rintro v1884 cn' K' N' I1880 R1881 L1882 ⟨rfl, rfl, rfl, rfl, g1883, p1885, w1886, -⟩
          have hS1887 := hS1369.tr g1883 (by decide +kernel) (by decide +kernel)
          have c1888 : I1880 a1 2 = v37 := (g1883.cell ta1 (by decide +kernel)).trans c1370
          have b1889 : 0 ≤ v1884.toInt ∧ v1884.toInt ≤ 239 := by omega
          clear p1885
          have ov1890 := w1886.over (by rw [c1868]; omega)
          obtain ⟨v1891, c1892⟩ : ∃ v, I1880 a0 9 = v := ⟨_, rfl⟩
          have b1893 := iv15_9 hS1887.1 ta0 c1892
          obtain ⟨v1894, c1895⟩ : ∃ v, I1880 a0 13 = v := ⟨_, rfl⟩
          obtain ⟨v1896, c1897⟩ : ∃ v, I1880 a0 14 = v := ⟨_, rfl⟩
          (try rw [c1892] at ov1890)
          (try rw [c1895] at ov1890)
          (try rw [c1897] at ov1890)
          (try rw [c1868] at ov1890)
          (try rw [c1871] at ov1890)
          (try rw [c1873] at ov1890)
          refine tr_istore_n dX12_readEvent_57 (by decide) (by decide) ?_
          refine tr_iload_n dX12_readEvent_58 rfl ?_
          refine q_iconst dX12_readEvent_59 (by decide) ?_
          intro v1898 h1899
          refine q_icmp_ne 69 dX12_readEvent_60 (by decide) (fun h1900 => ?_) (fun h1900 => ?_)
          · skip
            refine tr_aload_n dX12_readEvent_69 rfl ?_
            refine tr_ldcwS dX12_readEvent_70 ld12_272 ?_
            refine tr_iload_n dX12_readEvent_73 rfl ?_
            refine q_iconst dX12_readEvent_74 (by decide) ?_
            intro v1901 h1902
            refine q_iaddE dX12_readEvent_75 (by intros; omega) ?_
            intro v1903 h1904
            refine tr_aload_n dX12_readEvent_76 rfl ?_
            refine tr_getR dX12_readEvent_77 fl12_188 (kR15 hS1887.1 ta0) d2 ?_
            refine q_getI dX12_readEvent_80 fl12_192 (kR14 hS1887.1 ta1) ((hS1887.cell ta1 (by decide +kernel)).trans c30) ?_
            refine q_callVi hE (M' := mX12_readPart) (as := [_, _, _]) dX12_readEvent_83 lk12_249 inX12_readPart seX12_readPart myX12_readPart (by decide) ⟨by decide, by decide⟩ rfl (kR15 hS1887.1 ta0) (Nat.le_of_ble_eq_true rfl) rfl rfl (by decide) (by decide) (k_X12_readPart hS1887.1 ta0 (by decide)) ?_
            rintro v1909 cn' K' N' I1905 R1906 L1907 ⟨rfl, rfl, rfl, rfl, g1908, p1910, w1911, -⟩
            have hS1912 := hS1887.tr g1908 (by decide +kernel) (by decide +kernel)
            have c1913 : I1905 a1 2 = v37 := (g1908.cell ta1 (by decide +kernel)).trans c1888
            have b1914 : 1 ≤ v1909.toInt ∧ v1909.toInt ≤ 240 := by omega
            clear p1910
            have ov1915 := w1911.over (by rw [c1892]; omega)
            obtain ⟨v1916, c1917⟩ : ∃ v, I1905 a0 9 = v := ⟨_, rfl⟩
            have b1918 := iv15_9 hS1912.1 ta0 c1917
            obtain ⟨v1919, c1920⟩ : ∃ v, I1905 a0 13 = v := ⟨_, rfl⟩
            obtain ⟨v1921, c1922⟩ : ∃ v, I1905 a0 14 = v := ⟨_, rfl⟩
            (try rw [c1917] at ov1915)
            (try rw [c1920] at ov1915)
            (try rw [c1922] at ov1915)
            (try rw [c1892] at ov1915)
            (try rw [c1895] at ov1915)
            (try rw [c1897] at ov1915)
            refine tr_istore dX12_readEvent_86 (by decide) (by decide) ?_
            refine tr_aload_n dX12_readEvent_88 rfl ?_
            refine q_getI dX12_readEvent_89 fl12_99 (kR15 hS1912.1 ta0) c1917 ?_
            refine q_iconst dX12_readEvent_92 (by decide) ?_
            intro v1923 h1924
            refine q_icmp_ne 97 dX12_readEvent_93 (by decide) (fun h1925 => ?_) (fun h1925 => ?_)
            · skip
              exfalso; omega
            · skip
              have eF := hF.eq
              have eP := hP.eq
              obtain ⟨v1926, c1927⟩ : ∃ v, I1905 a0 10 = v := ⟨_, rfl⟩
              have b1928 := iv15_10 hS1912.1 ta0 c1927
              obtain ⟨v1929, c1930⟩ : ∃ v, I1905 a0 11 = v := ⟨_, rfl⟩
              obtain ⟨y1931, c1932⟩ : ∃ v, L1907 a0 15 = v := ⟨_, rfl⟩
              obtain ⟨v1933, c1934⟩ : ∃ v, I1905 a0 12 = v := ⟨_, rfl⟩
              obtain ⟨v1935, c1936⟩ : ∃ v, I1905 a0 8 = v := ⟨_, rfl⟩
              have b1937 := iv15_8 hS1912.1 ta0 c1936
              exact tr_vret hZ dX12_readEvent_96 rfl (by decide) (by decide) ⟨rfl, rfl, rfl, rfl, rfl, hS1912, (Or.inr (⟨(by (try rw [w1342]); first | done | omega), (by (try rw [w1342]); (try rw [c1917]); first | done | omega), (by (try rw [w1342]); (try rw [c1920]); first | done | omega), (by (try rw [w1342]); (try rw [c1922]); first | done | omega), trivial⟩)), trivial⟩
          · skip
            exfalso; omega
      · skip
        exfalso; omega
    · skip
      obtain ⟨v1938, c1939⟩ : ∃ v, I1291 a0 9 = v := ⟨_, rfl⟩
      have b1940 := iv15_9 hS1299.1 ta0 c1939
      rw [c1939] at p1313
      obtain ⟨v1941, c1942⟩ : ∃ v, I1291 a0 13 = v := ⟨_, rfl⟩
      rw [c1942] at p1314
      obtain ⟨v1943, c1944⟩ : ∃ v, I1291 a0 14 = v := ⟨_, rfl⟩
      rw [c1944] at p1315
      replace hF := hF.pos (by omega)
      replace hP := hP.pos (by omega)
      refine tr_iload_n dX12_readEvent_13 rfl ?_
      refine q_iconst dX12_readEvent_14 (by decide) ?_
      intro v1945 h1946
      refine q_icmp_eq 23 dX12_readEvent_15 (by decide) (fun h1947 => ?_) (fun h1947 => ?_)
      · skip
        refine tr_aload_n dX12_readEvent_23 rfl ?_
        refine q_iconst dX12_readEvent_24 (by decide) ?_
        intro v1948 h1949
        refine tr_aload_n dX12_readEvent_25 rfl ?_
        refine tr_getR dX12_readEvent_26 fl12_188 (kR15 hS1299.1 ta0) d2 ?_
        refine q_getI dX12_readEvent_29 fl12_263 (kR14 hS1299.1 ta1) ((hS1299.cell ta1 (by decide +kernel)).trans c34) ?_
        refine q_iconst dX12_readEvent_32 (by decide) ?_
        intro v1950 h1951
        refine q_isubE dX12_readEvent_33 (by intros; omega) ?_
        intro v1952 h1953
        refine q_callVi hE (M' := mX12_readWhole) (as := [_, _]) dX12_readEvent_34 lk12_161 inX12_readWhole seX12_readWhole myX12_readWhole (by decide) ⟨by decide, by decide⟩ rfl (kR15 hS1299.1 ta0) (Nat.le_of_ble_eq_true rfl) rfl rfl (by decide) (by decide) (k_X12_readWhole hS1299.1 ta0) ?_
        rintro v1958 cn' K' N' I1954 R1955 L1956 ⟨rfl, rfl, rfl, rfl, g1957, p1959, w1960, -⟩
        have hS1961 := hS1299.tr g1957 (by decide +kernel) (by decide +kernel)
        have c1962 : I1954 a1 2 = v37 := (g1957.cell ta1 (by decide +kernel)).trans c1300
        have b1963 : 0 ≤ v1958.toInt ∧ v1958.toInt ≤ 3 := by omega
        clear p1959
        have ov1964 := w1960.over (by rw [c1939]; omega)
        obtain ⟨v1965, c1966⟩ : ∃ v, I1954 a0 9 = v := ⟨_, rfl⟩
        have b1967 := iv15_9 hS1961.1 ta0 c1966
        obtain ⟨v1968, c1969⟩ : ∃ v, I1954 a0 13 = v := ⟨_, rfl⟩
        obtain ⟨v1970, c1971⟩ : ∃ v, I1954 a0 14 = v := ⟨_, rfl⟩
        (try rw [c1966] at ov1964)
        (try rw [c1969] at ov1964)
        (try rw [c1971] at ov1964)
        (try rw [c1939] at ov1964)
        (try rw [c1942] at ov1964)
        (try rw [c1944] at ov1964)
        refine tr_goto 42 dX12_readEvent_37 (by decide) ?_
        refine tr_istore_n dX12_readEvent_42 (by decide) (by decide) ?_
        refine tr_aload_n dX12_readEvent_43 rfl ?_
        refine q_iconst dX12_readEvent_44 (by decide) ?_
        intro v1972 h1973
        refine tr_aload_n dX12_readEvent_45 rfl ?_
        refine tr_getR dX12_readEvent_46 fl12_188 (kR15 hS1961.1 ta0) d2 ?_
        refine q_getI dX12_readEvent_49 fl12_192 (kR14 hS1961.1 ta1) ((hS1961.cell ta1 (by decide +kernel)).trans c30) ?_
        refine q_iconst dX12_readEvent_52 (by decide) ?_
        intro v1974 h1975
        refine q_isubE dX12_readEvent_53 (by intros; omega) ?_
        intro v1976 h1977
        refine q_callVi hE (M' := mX12_readWhole) (as := [_, _]) dX12_readEvent_54 lk12_161 inX12_readWhole seX12_readWhole myX12_readWhole (by decide) ⟨by decide, by decide⟩ rfl (kR15 hS1961.1 ta0) (Nat.le_of_ble_eq_true rfl) rfl rfl (by decide) (by decide) (k_X12_readWhole hS1961.1 ta0) ?_
        rintro v1982 cn' K' N' I1978 R1979 L1980 ⟨rfl, rfl, rfl, rfl, g1981, p1983, w1984, -⟩
        have hS1985 := hS1961.tr g1981 (by decide +kernel) (by decide +kernel)
        have c1986 : I1978 a1 2 = v37 := (g1981.cell ta1 (by decide +kernel)).trans c1962
        have b1987 : 0 ≤ v1982.toInt ∧ v1982.toInt ≤ 239 := by omega
        clear p1983
        have ov1988 := w1984.over (by rw [c1966]; omega)
        obtain ⟨v1989, c1990⟩ : ∃ v, I1978 a0 9 = v := ⟨_, rfl⟩
        have b1991 := iv15_9 hS1985.1 ta0 c1990
        obtain ⟨v1992, c1993⟩ : ∃ v, I1978 a0 13 = v := ⟨_, rfl⟩
        obtain ⟨v1994, c1995⟩ : ∃ v, I1978 a0 14 = v := ⟨_, rfl⟩
        (try rw [c1990] at ov1988)
        (try rw [c1993] at ov1988)
        (try rw [c1995] at ov1988)
        (try rw [c1966] at ov1988)
        (try rw [c1969] at ov1988)
        (try rw [c1971] at ov1988)
        refine tr_istore_n dX12_readEvent_57 (by decide) (by decide) ?_
        refine tr_iload_n dX12_readEvent_58 rfl ?_
        refine q_iconst dX12_readEvent_59 (by decide) ?_
        intro v1996 h1997
        refine q_icmp_ne 69 dX12_readEvent_60 (by decide) (fun h1998 => ?_) (fun h1998 => ?_)
        · skip
          refine tr_aload_n dX12_readEvent_69 rfl ?_
          refine tr_ldcwS dX12_readEvent_70 ld12_272 ?_
          refine tr_iload_n dX12_readEvent_73 rfl ?_
          refine q_iconst dX12_readEvent_74 (by decide) ?_
          intro v1999 h2000
          refine q_iaddE dX12_readEvent_75 (by intros; omega) ?_
          intro v2001 h2002
          refine tr_aload_n dX12_readEvent_76 rfl ?_
          refine tr_getR dX12_readEvent_77 fl12_188 (kR15 hS1985.1 ta0) d2 ?_
          refine q_getI dX12_readEvent_80 fl12_192 (kR14 hS1985.1 ta1) ((hS1985.cell ta1 (by decide +kernel)).trans c30) ?_
          refine q_callVi hE (M' := mX12_readPart) (as := [_, _, _]) dX12_readEvent_83 lk12_249 inX12_readPart seX12_readPart myX12_readPart (by decide) ⟨by decide, by decide⟩ rfl (kR15 hS1985.1 ta0) (Nat.le_of_ble_eq_true rfl) rfl rfl (by decide) (by decide) (k_X12_readPart hS1985.1 ta0 (by decide)) ?_
          rintro v2007 cn' K' N' I2003 R2004 L2005 ⟨rfl, rfl, rfl, rfl, g2006, p2008, w2009, -⟩
          have hS2010 := hS1985.tr g2006 (by decide +kernel) (by decide +kernel)
          have c2011 : I2003 a1 2 = v37 := (g2006.cell ta1 (by decide +kernel)).trans c1986
          have b2012 : 1 ≤ v2007.toInt ∧ v2007.toInt ≤ 240 := by omega
          clear p2008
          have ov2013 := w2009.over (by rw [c1990]; omega)
          obtain ⟨v2014, c2015⟩ : ∃ v, I2003 a0 9 = v := ⟨_, rfl⟩
          have b2016 := iv15_9 hS2010.1 ta0 c2015
          obtain ⟨v2017, c2018⟩ : ∃ v, I2003 a0 13 = v := ⟨_, rfl⟩
          obtain ⟨v2019, c2020⟩ : ∃ v, I2003 a0 14 = v := ⟨_, rfl⟩
          (try rw [c2015] at ov2013)
          (try rw [c2018] at ov2013)
          (try rw [c2020] at ov2013)
          (try rw [c1990] at ov2013)
          (try rw [c1993] at ov2013)
          (try rw [c1995] at ov2013)
          refine tr_istore dX12_readEvent_86 (by decide) (by decide) ?_
          refine tr_aload_n dX12_readEvent_88 rfl ?_
          refine q_getI dX12_readEvent_89 fl12_99 (kR15 hS2010.1 ta0) c2015 ?_
          refine q_iconst dX12_readEvent_92 (by decide) ?_
          intro v2021 h2022
          refine q_icmp_ne 97 dX12_readEvent_93 (by decide) (fun h2023 => ?_) (fun h2023 => ?_)
          · skip
            exfalso; omega
          · skip
            have eF := hF.eq
            have eP := hP.eq
            obtain ⟨v2024, c2025⟩ : ∃ v, I2003 a0 10 = v := ⟨_, rfl⟩
            have b2026 := iv15_10 hS2010.1 ta0 c2025
            obtain ⟨v2027, c2028⟩ : ∃ v, I2003 a0 11 = v := ⟨_, rfl⟩
            obtain ⟨y2029, c2030⟩ : ∃ v, L2005 a0 15 = v := ⟨_, rfl⟩
            obtain ⟨v2031, c2032⟩ : ∃ v, I2003 a0 12 = v := ⟨_, rfl⟩
            obtain ⟨v2033, c2034⟩ : ∃ v, I2003 a0 8 = v := ⟨_, rfl⟩
            have b2035 := iv15_8 hS2010.1 ta0 c2034
            exact tr_vret hZ dX12_readEvent_96 rfl (by decide) (by decide) ⟨rfl, rfl, rfl, rfl, rfl, hS2010, (Or.inr (⟨(by first | done | omega), (by (try rw [c2015]); first | done | omega), (by (try rw [c2018]); first | done | omega), (by (try rw [c2020]); first | done | omega), trivial⟩)), trivial⟩
        · skip
          exfalso; omega
      · skip
        exfalso; omega
    · skip
      obtain ⟨v2036, c2037⟩ : ∃ v, I1291 a0 9 = v := ⟨_, rfl⟩
      have b2038 := iv15_9 hS1299.1 ta0 c2037
      rw [c2037] at p1318
      obtain ⟨v2039, c2040⟩ : ∃ v, I1291 a0 13 = v := ⟨_, rfl⟩
      rw [c2040] at p1319
      obtain ⟨v2041, c2042⟩ : ∃ v, I1291 a0 14 = v := ⟨_, rfl⟩
      rw [c2042] at p1320
      replace hF := hF.neg (by omega)
      replace hP := hP.neg (by omega)
      replace hF := hF.pos (by omega)
      replace hP := hP.pos (by omega)
      refine tr_iload_n dX12_readEvent_13 rfl ?_
      refine q_iconst dX12_readEvent_14 (by decide) ?_
      intro v2043 h2044
      refine q_icmp_eq 23 dX12_readEvent_15 (by decide) (fun h2045 => ?_) (fun h2045 => ?_)
      · skip
        refine tr_aload_n dX12_readEvent_23 rfl ?_
        refine q_iconst dX12_readEvent_24 (by decide) ?_
        intro v2046 h2047
        refine tr_aload_n dX12_readEvent_25 rfl ?_
        refine tr_getR dX12_readEvent_26 fl12_188 (kR15 hS1299.1 ta0) d2 ?_
        refine q_getI dX12_readEvent_29 fl12_263 (kR14 hS1299.1 ta1) ((hS1299.cell ta1 (by decide +kernel)).trans c34) ?_
        refine q_iconst dX12_readEvent_32 (by decide) ?_
        intro v2048 h2049
        refine q_isubE dX12_readEvent_33 (by intros; omega) ?_
        intro v2050 h2051
        refine q_callVi hE (M' := mX12_readWhole) (as := [_, _]) dX12_readEvent_34 lk12_161 inX12_readWhole seX12_readWhole myX12_readWhole (by decide) ⟨by decide, by decide⟩ rfl (kR15 hS1299.1 ta0) (Nat.le_of_ble_eq_true rfl) rfl rfl (by decide) (by decide) (k_X12_readWhole hS1299.1 ta0) ?_
        rintro v2056 cn' K' N' I2052 R2053 L2054 ⟨rfl, rfl, rfl, rfl, g2055, p2057, w2058, -⟩
        have hS2059 := hS1299.tr g2055 (by decide +kernel) (by decide +kernel)
        have c2060 : I2052 a1 2 = v37 := (g2055.cell ta1 (by decide +kernel)).trans c1300
        have b2061 : 0 ≤ v2056.toInt ∧ v2056.toInt ≤ 3 := by omega
        clear p2057
        have ov2062 := w2058.over (by rw [c2037]; omega)
        obtain ⟨v2063, c2064⟩ : ∃ v, I2052 a0 9 = v := ⟨_, rfl⟩
        have b2065 := iv15_9 hS2059.1 ta0 c2064
        obtain ⟨v2066, c2067⟩ : ∃ v, I2052 a0 13 = v := ⟨_, rfl⟩
        obtain ⟨v2068, c2069⟩ : ∃ v, I2052 a0 14 = v := ⟨_, rfl⟩
        (try rw [c2064] at ov2062)
        (try rw [c2067] at ov2062)
        (try rw [c2069] at ov2062)
        (try rw [c2037] at ov2062)
        (try rw [c2040] at ov2062)
        (try rw [c2042] at ov2062)
        refine tr_goto 42 dX12_readEvent_37 (by decide) ?_
        refine tr_istore_n dX12_readEvent_42 (by decide) (by decide) ?_
        refine tr_aload_n dX12_readEvent_43 rfl ?_
        refine q_iconst dX12_readEvent_44 (by decide) ?_
        intro v2070 h2071
        refine tr_aload_n dX12_readEvent_45 rfl ?_
        refine tr_getR dX12_readEvent_46 fl12_188 (kR15 hS2059.1 ta0) d2 ?_
        refine q_getI dX12_readEvent_49 fl12_192 (kR14 hS2059.1 ta1) ((hS2059.cell ta1 (by decide +kernel)).trans c30) ?_
        refine q_iconst dX12_readEvent_52 (by decide) ?_
        intro v2072 h2073
        refine q_isubE dX12_readEvent_53 (by intros; omega) ?_
        intro v2074 h2075
        refine q_callVi hE (M' := mX12_readWhole) (as := [_, _]) dX12_readEvent_54 lk12_161 inX12_readWhole seX12_readWhole myX12_readWhole (by decide) ⟨by decide, by decide⟩ rfl (kR15 hS2059.1 ta0) (Nat.le_of_ble_eq_true rfl) rfl rfl (by decide) (by decide) (k_X12_readWhole hS2059.1 ta0) ?_
        rintro v2080 cn' K' N' I2076 R2077 L2078 ⟨rfl, rfl, rfl, rfl, g2079, p2081, w2082, -⟩
        have hS2083 := hS2059.tr g2079 (by decide +kernel) (by decide +kernel)
        have c2084 : I2076 a1 2 = v37 := (g2079.cell ta1 (by decide +kernel)).trans c2060
        have b2085 : 0 ≤ v2080.toInt ∧ v2080.toInt ≤ 0 := by omega
        clear p2081
        have ov2086 := w2082.over (by rw [c2064]; omega)
        obtain ⟨v2087, c2088⟩ : ∃ v, I2076 a0 9 = v := ⟨_, rfl⟩
        have b2089 := iv15_9 hS2083.1 ta0 c2088
        obtain ⟨v2090, c2091⟩ : ∃ v, I2076 a0 13 = v := ⟨_, rfl⟩
        obtain ⟨v2092, c2093⟩ : ∃ v, I2076 a0 14 = v := ⟨_, rfl⟩
        (try rw [c2088] at ov2086)
        (try rw [c2091] at ov2086)
        (try rw [c2093] at ov2086)
        (try rw [c2064] at ov2086)
        (try rw [c2067] at ov2086)
        (try rw [c2069] at ov2086)
        refine tr_istore_n dX12_readEvent_57 (by decide) (by decide) ?_
        refine tr_iload_n dX12_readEvent_58 rfl ?_
        refine q_iconst dX12_readEvent_59 (by decide) ?_
        intro v2094 h2095
        refine q_icmp_ne 69 dX12_readEvent_60 (by decide) (fun h2096 => ?_) (fun h2096 => ?_)
        · skip
          refine tr_aload_n dX12_readEvent_69 rfl ?_
          refine tr_ldcwS dX12_readEvent_70 ld12_272 ?_
          refine tr_iload_n dX12_readEvent_73 rfl ?_
          refine q_iconst dX12_readEvent_74 (by decide) ?_
          intro v2097 h2098
          refine q_iaddE dX12_readEvent_75 (by intros; omega) ?_
          intro v2099 h2100
          refine tr_aload_n dX12_readEvent_76 rfl ?_
          refine tr_getR dX12_readEvent_77 fl12_188 (kR15 hS2083.1 ta0) d2 ?_
          refine q_getI dX12_readEvent_80 fl12_192 (kR14 hS2083.1 ta1) ((hS2083.cell ta1 (by decide +kernel)).trans c30) ?_
          refine q_callVi hE (M' := mX12_readPart) (as := [_, _, _]) dX12_readEvent_83 lk12_249 inX12_readPart seX12_readPart myX12_readPart (by decide) ⟨by decide, by decide⟩ rfl (kR15 hS2083.1 ta0) (Nat.le_of_ble_eq_true rfl) rfl rfl (by decide) (by decide) (k_X12_readPart hS2083.1 ta0 (by decide)) ?_
          rintro v2105 cn' K' N' I2101 R2102 L2103 ⟨rfl, rfl, rfl, rfl, g2104, p2106, w2107, -⟩
          have hS2108 := hS2083.tr g2104 (by decide +kernel) (by decide +kernel)
          have c2109 : I2101 a1 2 = v37 := (g2104.cell ta1 (by decide +kernel)).trans c2084
          have b2110 : 1 ≤ v2105.toInt ∧ v2105.toInt ≤ 1 := by omega
          clear p2106
          have ov2111 := w2107.over (by rw [c2088]; omega)
          obtain ⟨v2112, c2113⟩ : ∃ v, I2101 a0 9 = v := ⟨_, rfl⟩
          have b2114 := iv15_9 hS2108.1 ta0 c2113
          obtain ⟨v2115, c2116⟩ : ∃ v, I2101 a0 13 = v := ⟨_, rfl⟩
          obtain ⟨v2117, c2118⟩ : ∃ v, I2101 a0 14 = v := ⟨_, rfl⟩
          (try rw [c2113] at ov2111)
          (try rw [c2116] at ov2111)
          (try rw [c2118] at ov2111)
          (try rw [c2088] at ov2111)
          (try rw [c2091] at ov2111)
          (try rw [c2093] at ov2111)
          refine tr_istore dX12_readEvent_86 (by decide) (by decide) ?_
          refine tr_aload_n dX12_readEvent_88 rfl ?_
          refine q_getI dX12_readEvent_89 fl12_99 (kR15 hS2108.1 ta0) c2113 ?_
          refine q_iconst dX12_readEvent_92 (by decide) ?_
          intro v2119 h2120
          refine q_icmp_ne 97 dX12_readEvent_93 (by decide) (fun h2121 => ?_) (fun h2121 => ?_)
          · skip
            exfalso; omega
          · skip
            have eF := hF.eq
            have eP := hP.eq
            obtain ⟨v2122, c2123⟩ : ∃ v, I2101 a0 10 = v := ⟨_, rfl⟩
            have b2124 := iv15_10 hS2108.1 ta0 c2123
            obtain ⟨v2125, c2126⟩ : ∃ v, I2101 a0 11 = v := ⟨_, rfl⟩
            obtain ⟨y2127, c2128⟩ : ∃ v, L2103 a0 15 = v := ⟨_, rfl⟩
            obtain ⟨v2129, c2130⟩ : ∃ v, I2101 a0 12 = v := ⟨_, rfl⟩
            obtain ⟨v2131, c2132⟩ : ∃ v, I2101 a0 8 = v := ⟨_, rfl⟩
            have b2133 := iv15_8 hS2108.1 ta0 c2132
            exact tr_vret hZ dX12_readEvent_96 rfl (by decide) (by decide) ⟨rfl, rfl, rfl, rfl, rfl, hS2108, (Or.inr (⟨(by first | done | omega), (by (try rw [c2113]); first | done | omega), (by (try rw [c2116]); first | done | omega), (by (try rw [c2118]); first | done | omega), trivial⟩)), trivial⟩
        · skip
          exfalso; omega
      · skip
        exfalso; omega
  · skip
    refine tr_aload_n dX12_readEvent_0 rfl ?_
    refine tr_aload_n dX12_readEvent_1 rfl ?_
    refine tr_getR dX12_readEvent_2 fl12_188 (kR15 hS0.1 ta0) d2 ?_
    refine q_getI dX12_readEvent_5 fl12_265 (kR14 hS0.1 ta1) c38 ?_
    refine q_bipush dX12_readEvent_8 (by decide +kernel) ?_
    intro v2134 h2135
    refine q_callVv hE (M' := mX12_begins) (as := [_, _]) dX12_readEvent_10 lk12_268 inX12_begins seX12_begins myX12_begins (by decide) ⟨by decide, by decide⟩ rfl (kR15 hS0.1 ta0) (Nat.le_of_ble_eq_true rfl) rfl rfl (by decide) (by decide) (fk_X12_begins hS0.1 (gB) (gs) (gQ) ta0 (TxA.kp hT hS0 ta0 rfl rfl rfl (by decide +kernel) (by decide +kernel)) (by (try rw [c4]); first | done | omega) (by (try rw [c4]); first | done | omega) (by (try rw [c9]); first | done | omega) (by (try rw [c13]); first | done | omega) (by (try rw [c16]); first | done | assumption) (by (try rw [c19]); first | done | assumption) (by (try rw [c22]); first | done | assumption) (by (try rw [c26]); first | done | omega) (fun q0 z0 => by obtain rfl := Option.some.inj ((d2).symm.trans z0); (try rw [c30]); first | done | omega) (by first | done | omega) ⟨_, d2⟩) ?_
    rintro cn' K' N' I2136 R2137 L2138 ⟨rfl, rfl, rfl, rfl, g2139, dj2142, -⟩
    have hM2143 : NmM I2136 R0 L0 a1 gQ := NmM.kpS hM0 g2139 hS0.1 ta1 (by decide +kernel) (by decide +kernel)
    have hS2144 := hS0.tr g2139 (by decide +kernel) (by decide +kernel)
    have c2145 : I2136 a1 2 = v37 := (g2139.cell ta1 (by decide +kernel)).trans c38
    rcases dj2142 with ⟨p2146, p2147, p2148, p2149, p2150, p2151, p2152, p2153, p2154, p2155, gl2156, -⟩ | ⟨p2157, p2158, p2159, p2160, -⟩ | ⟨p2161, p2162, p2163, p2164, p2165, -⟩
    · skip
      have hL2166 := hL0.tr gl2156 (by decide +kernel)
      have hM2167 : NmM I2136 R0 L2138 a1 gQ := NmM.kpL hM2143 gl2156 hS2144.1 ta1 (by decide +kernel)
      obtain ⟨v2168, c2169⟩ : ∃ v, I2136 a0 13 = v := ⟨_, rfl⟩
      rw [c2169] at p2148
      rw [c65] at p2148
      obtain ⟨v2170, c2171⟩ : ∃ v, I2136 a0 9 = v := ⟨_, rfl⟩
      have b2172 := iv15_9 hS2144.1 ta0 c2171
      rw [c2171] at p2149
      rw [c2171] at p2150
      obtain ⟨v2173, c2174⟩ : ∃ v, I2136 a0 10 = v := ⟨_, rfl⟩
      have b2175 := iv15_10 hS2144.1 ta0 c2174
      rw [c2174] at p2151
      obtain ⟨v2176, c2177⟩ : ∃ v, I2136 a0 11 = v := ⟨_, rfl⟩
      rw [c2177] at p2152
      obtain ⟨y2178, c2179⟩ : ∃ v, L2138 a0 15 = v := ⟨_, rfl⟩
      rw [c2179] at p2153
      obtain ⟨v2180, c2181⟩ : ∃ v, I2136 a0 12 = v := ⟨_, rfl⟩
      rw [c2181] at p2154
      obtain ⟨v2182, c2183⟩ : ∃ v, I2136 a0 8 = v := ⟨_, rfl⟩
      have b2184 := iv15_8 hS2144.1 ta0 c2183
      rw [c2183] at p2155
      replace hF := hF.neg (by omega)
      replace hP := hP.neg (by omega)
      replace hF := hF.neg (by omega)
      replace hP := hP.neg (by omega)
      obtain ⟨w2185, w2186, w2187, w2188, w2189, w2190, w2191, w2192, w2193, w2194, w2195, w2196⟩ := lnl_e (B := gB) (Q := gQ) (s := gs) (by omega) (by omega)
      replace hF := hF.to w2185 (evF_c2 (B := gB) (Q := gQ) (k := srt gB gs) (s := (tkN gB gs)) (by omega))
      replace hP := hP.to w2186 (evP_c2 (B := gB) (Q := gQ) (k := srt gB gs) (s := (tkN gB gs)) (by omega))
      refine tr_iload_n dX12_readEvent_13 rfl ?_
      refine q_iconst dX12_readEvent_14 (by decide) ?_
      intro v2197 h2198
      refine q_icmp_eq 23 dX12_readEvent_15 (by decide) (fun h2199 => ?_) (fun h2199 => ?_)
      · skip
        exfalso; omega
      · skip
        refine tr_iload_n dX12_readEvent_18 rfl ?_
        refine q_iconst dX12_readEvent_19 (by decide) ?_
        intro v2200 h2201
        refine q_icmp_ne 40 dX12_readEvent_20 (by decide) (fun h2202 => ?_) (fun h2202 => ?_)
        · skip
          exfalso; omega
        · skip
          refine tr_aload_n dX12_readEvent_23 rfl ?_
          refine q_iconst dX12_readEvent_24 (by decide) ?_
          intro v2203 h2204
          refine tr_aload_n dX12_readEvent_25 rfl ?_
          refine tr_getR dX12_readEvent_26 fl12_188 (kR15 hS2144.1 ta0) d2 ?_
          refine q_getI dX12_readEvent_29 fl12_263 (kR14 hS2144.1 ta1) ((hS2144.cell ta1 (by decide +kernel)).trans c34) ?_
          refine q_iconst dX12_readEvent_32 (by decide) ?_
          intro v2205 h2206
          refine q_isubE dX12_readEvent_33 (by intros; omega) ?_
          intro v2207 h2208
          refine q_callVi hE (M' := mX12_readWhole) (as := [_, _]) dX12_readEvent_34 lk12_161 inX12_readWhole seX12_readWhole myX12_readWhole (by decide) ⟨by decide, by decide⟩ rfl (kR15 hS2144.1 ta0) (Nat.le_of_ble_eq_true rfl) rfl rfl (by decide) (by decide) (fk_X12_readWhole hS2144.1 (gB) ((tkN gB gs)) ta0 (TxA.kp hT hS2144 ta0 rfl rfl rfl (by decide +kernel) (by decide +kernel)) (by (try rw [c2171]); first | done | omega) (by (try rw [c2171]); first | done | omega) (by (try rw [c2174]); first | done | omega) (by (try rw [c2177]); first | done | omega) (by (try rw [c2179]); first | done | assumption) (by (try rw [c2181]); first | done | assumption) (by (try rw [c2183]); first | done | assumption) (by (try rw [((hS2144.cell ta0 (by decide +kernel)).trans c26)]); first | done | omega)) ?_
          rintro v2214 cn' K' N' I2209 R2210 L2211 ⟨rfl, rfl, rfl, rfl, g2212, dj2215, -⟩
          have hM2216 : NmM I2209 R0 L2138 a1 gQ := NmM.kpS hM2167 g2212 hS2144.1 ta1 (by decide +kernel) (by decide +kernel)
          have hS2217 := hS2144.tr g2212 (by decide +kernel) (by decide +kernel)
          have c2218 : I2209 a1 2 = v37 := (g2212.cell ta1 (by decide +kernel)).trans c2145
          rcases dj2215 with ⟨p2219, p2220, p2221, p2222, p2223, p2224, p2225, p2226, p2227, p2228, p2229, p2230, gl2231, -⟩ | ⟨p2232, p2233, p2234, p2235, p2236, -⟩ | ⟨p2237, p2238, p2239, p2240, p2241, p2242, -⟩
          · skip
            have hL2243 := hL2166.tr gl2231 (by decide +kernel)
            have hM2244 : NmM I2209 R0 L2211 a1 gQ := NmM.kpL hM2216 gl2231 hS2217.1 ta1 (by decide +kernel)
            obtain ⟨v2245, c2246⟩ : ∃ v, I2209 a0 13 = v := ⟨_, rfl⟩
            rw [c2246] at p2223
            rw [c2169] at p2223
            obtain ⟨v2247, c2248⟩ : ∃ v, I2209 a0 9 = v := ⟨_, rfl⟩
            have b2249 := iv15_9 hS2217.1 ta0 c2248
            rw [c2248] at p2224
            rw [c2248] at p2225
            obtain ⟨v2250, c2251⟩ : ∃ v, I2209 a0 10 = v := ⟨_, rfl⟩
            have b2252 := iv15_10 hS2217.1 ta0 c2251
            rw [c2251] at p2226
            obtain ⟨v2253, c2254⟩ : ∃ v, I2209 a0 11 = v := ⟨_, rfl⟩
            rw [c2254] at p2227
            obtain ⟨y2255, c2256⟩ : ∃ v, L2211 a0 15 = v := ⟨_, rfl⟩
            rw [c2256] at p2228
            obtain ⟨v2257, c2258⟩ : ∃ v, I2209 a0 12 = v := ⟨_, rfl⟩
            rw [c2258] at p2229
            obtain ⟨v2259, c2260⟩ : ∃ v, I2209 a0 8 = v := ⟨_, rfl⟩
            have b2261 := iv15_8 hS2217.1 ta0 c2260
            rw [c2260] at p2230
            replace hF := hF.neg (by omega)
            replace hP := hP.neg (by omega)
            replace hF := hF.neg (by omega)
            replace hP := hP.neg (by omega)
            refine tr_goto 42 dX12_readEvent_37 (by decide) ?_
            refine tr_istore_n dX12_readEvent_42 (by decide) (by decide) ?_
            refine tr_aload_n dX12_readEvent_43 rfl ?_
            refine q_iconst dX12_readEvent_44 (by decide) ?_
            intro v2262 h2263
            refine tr_aload_n dX12_readEvent_45 rfl ?_
            refine tr_getR dX12_readEvent_46 fl12_188 (kR15 hS2217.1 ta0) d2 ?_
            refine q_getI dX12_readEvent_49 fl12_192 (kR14 hS2217.1 ta1) ((hS2217.cell ta1 (by decide +kernel)).trans c30) ?_
            refine q_iconst dX12_readEvent_52 (by decide) ?_
            intro v2264 h2265
            refine q_isubE dX12_readEvent_53 (by intros; omega) ?_
            intro v2266 h2267
            refine q_callVi hE (M' := mX12_readWhole) (as := [_, _]) dX12_readEvent_54 lk12_161 inX12_readWhole seX12_readWhole myX12_readWhole (by decide) ⟨by decide, by decide⟩ rfl (kR15 hS2217.1 ta0) (Nat.le_of_ble_eq_true rfl) rfl rfl (by decide) (by decide) (fk_X12_readWhole hS2217.1 (gB) ((tkN gB (tkN gB gs))) ta0 (TxA.kp hT hS2217 ta0 rfl rfl rfl (by decide +kernel) (by decide +kernel)) (by (try rw [c2248]); first | done | omega) (by (try rw [c2248]); first | done | omega) (by (try rw [c2251]); first | done | omega) (by (try rw [c2254]); first | done | omega) (by (try rw [c2256]); first | done | assumption) (by (try rw [c2258]); first | done | assumption) (by (try rw [c2260]); first | done | assumption) (by (try rw [((hS2217.cell ta0 (by decide +kernel)).trans c26)]); first | done | omega)) ?_
            rintro v2273 cn' K' N' I2268 R2269 L2270 ⟨rfl, rfl, rfl, rfl, g2271, dj2274, -⟩
            have hM2275 : NmM I2268 R0 L2211 a1 gQ := NmM.kpS hM2244 g2271 hS2217.1 ta1 (by decide +kernel) (by decide +kernel)
            have hS2276 := hS2217.tr g2271 (by decide +kernel) (by decide +kernel)
            have c2277 : I2268 a1 2 = v37 := (g2271.cell ta1 (by decide +kernel)).trans c2218
            rcases dj2274 with ⟨p2278, p2279, p2280, p2281, p2282, p2283, p2284, p2285, p2286, p2287, p2288, p2289, gl2290, -⟩ | ⟨p2291, p2292, p2293, p2294, p2295, -⟩ | ⟨p2296, p2297, p2298, p2299, p2300, p2301, -⟩
            · skip
              have hL2302 := hL2243.tr gl2290 (by decide +kernel)
              have hM2303 : NmM I2268 R0 L2270 a1 gQ := NmM.kpL hM2275 gl2290 hS2276.1 ta1 (by decide +kernel)
              obtain ⟨v2304, c2305⟩ : ∃ v, I2268 a0 13 = v := ⟨_, rfl⟩
              rw [c2305] at p2282
              rw [c2246] at p2282
              obtain ⟨v2306, c2307⟩ : ∃ v, I2268 a0 9 = v := ⟨_, rfl⟩
              have b2308 := iv15_9 hS2276.1 ta0 c2307
              rw [c2307] at p2283
              rw [c2307] at p2284
              obtain ⟨v2309, c2310⟩ : ∃ v, I2268 a0 10 = v := ⟨_, rfl⟩
              have b2311 := iv15_10 hS2276.1 ta0 c2310
              rw [c2310] at p2285
              obtain ⟨v2312, c2313⟩ : ∃ v, I2268 a0 11 = v := ⟨_, rfl⟩
              rw [c2313] at p2286
              obtain ⟨y2314, c2315⟩ : ∃ v, L2270 a0 15 = v := ⟨_, rfl⟩
              rw [c2315] at p2287
              obtain ⟨v2316, c2317⟩ : ∃ v, I2268 a0 12 = v := ⟨_, rfl⟩
              rw [c2317] at p2288
              obtain ⟨v2318, c2319⟩ : ∃ v, I2268 a0 8 = v := ⟨_, rfl⟩
              have b2320 := iv15_8 hS2276.1 ta0 c2319
              rw [c2319] at p2289
              replace hF := hF.neg (by omega)
              replace hP := hP.neg (by omega)
              replace hF := hF.neg (by omega)
              replace hP := hP.neg (by omega)
              refine tr_istore_n dX12_readEvent_57 (by decide) (by decide) ?_
              refine tr_iload_n dX12_readEvent_58 rfl ?_
              refine q_iconst dX12_readEvent_59 (by decide) ?_
              intro v2321 h2322
              refine q_icmp_ne 69 dX12_readEvent_60 (by decide) (fun h2323 => ?_) (fun h2323 => ?_)
              · skip
                refine tr_aload_n dX12_readEvent_69 rfl ?_
                refine tr_ldcwS dX12_readEvent_70 ld12_272 ?_
                refine tr_iload_n dX12_readEvent_73 rfl ?_
                refine q_iconst dX12_readEvent_74 (by decide) ?_
                intro v2324 h2325
                refine q_iaddE dX12_readEvent_75 (by intros; omega) ?_
                intro v2326 h2327
                refine tr_aload_n dX12_readEvent_76 rfl ?_
                refine tr_getR dX12_readEvent_77 fl12_188 (kR15 hS2276.1 ta0) d2 ?_
                refine q_getI dX12_readEvent_80 fl12_192 (kR14 hS2276.1 ta1) ((hS2276.cell ta1 (by decide +kernel)).trans c30) ?_
                refine q_callVi hE (M' := mX12_readPart) (as := [_, _, _]) dX12_readEvent_83 lk12_249 inX12_readPart seX12_readPart myX12_readPart (by decide) ⟨by decide, by decide⟩ rfl (kR15 hS2276.1 ta0) (Nat.le_of_ble_eq_true rfl) rfl rfl (by decide) (by decide) (fk_X12_readPart hS2276.1 (gB) ((tkN gB (tkN gB (tkN gB gs)))) ta0 (by decide) (TxA.kp hT hS2276 ta0 rfl rfl rfl (by decide +kernel) (by decide +kernel)) (by (try rw [c2307]); first | done | omega) (by (try rw [c2307]); first | done | omega) (by (try rw [c2310]); first | done | omega) (by (try rw [c2313]); first | done | omega) (by (try rw [c2315]); first | done | assumption) (by (try rw [c2317]); first | done | assumption) (by (try rw [c2319]); first | done | assumption) (by (try rw [((hS2276.cell ta0 (by decide +kernel)).trans c26)]); first | done | omega)) ?_
                rintro v2333 cn' K' N' I2328 R2329 L2330 ⟨rfl, rfl, rfl, rfl, g2331, dj2334, -⟩
                (try rw [pk_25] at dj2334)
                have hM2335 : NmM I2328 R0 L2270 a1 gQ := NmM.kpS hM2303 g2331 hS2276.1 ta1 (by decide +kernel) (by decide +kernel)
                have hS2336 := hS2276.tr g2331 (by decide +kernel) (by decide +kernel)
                have c2337 : I2328 a1 2 = v37 := (g2331.cell ta1 (by decide +kernel)).trans c2277
                rcases dj2334 with ⟨p2338, p2339, p2340, p2341, p2342, p2343, p2344, p2345, p2346, p2347, p2348, p2349, p2350, p2351, gl2352, -⟩ | ⟨p2353, p2354, p2355, p2356, p2357, -⟩ | ⟨p2358, p2359, p2360, p2361, p2362, p2363, p2364, -⟩ | ⟨p2365, p2366, p2367, p2368, p2369, p2370, p2371, p2372, -⟩
                · skip
                  have hL2373 := hL2302.tr gl2352 (by decide +kernel)
                  have hM2374 : NmM I2328 R0 L2330 a1 gQ := NmM.kpL hM2335 gl2352 hS2336.1 ta1 (by decide +kernel)
                  obtain ⟨v2375, c2376⟩ : ∃ v, I2328 a0 13 = v := ⟨_, rfl⟩
                  rw [c2376] at p2344
                  rw [c2305] at p2344
                  obtain ⟨v2377, c2378⟩ : ∃ v, I2328 a0 9 = v := ⟨_, rfl⟩
                  have b2379 := iv15_9 hS2336.1 ta0 c2378
                  rw [c2378] at p2345
                  rw [c2378] at p2346
                  obtain ⟨v2380, c2381⟩ : ∃ v, I2328 a0 10 = v := ⟨_, rfl⟩
                  have b2382 := iv15_10 hS2336.1 ta0 c2381
                  rw [c2381] at p2347
                  obtain ⟨v2383, c2384⟩ : ∃ v, I2328 a0 11 = v := ⟨_, rfl⟩
                  rw [c2384] at p2348
                  obtain ⟨y2385, c2386⟩ : ∃ v, L2330 a0 15 = v := ⟨_, rfl⟩
                  rw [c2386] at p2349
                  obtain ⟨v2387, c2388⟩ : ∃ v, I2328 a0 12 = v := ⟨_, rfl⟩
                  rw [c2388] at p2350
                  obtain ⟨v2389, c2390⟩ : ∃ v, I2328 a0 8 = v := ⟨_, rfl⟩
                  have b2391 := iv15_8 hS2336.1 ta0 c2390
                  rw [c2390] at p2351
                  replace hF := hF.neg (by omega)
                  replace hP := hP.neg (by omega)
                  replace hF := hF.neg (by omega)
                  replace hP := hP.neg (by omega)
                  replace hF := hF.neg (by omega)
                  replace hP := hP.neg (by omega)
                  refine tr_istore dX12_readEvent_86 (by decide) (by decide) ?_
                  refine tr_aload_n dX12_readEvent_88 rfl ?_
                  refine q_getI dX12_readEvent_89 fl12_99 (kR15 hS2336.1 ta0) c2378 ?_
                  refine q_iconst dX12_readEvent_92 (by decide) ?_
                  intro v2392 h2393
                  refine q_icmp_ne 97 dX12_readEvent_93 (by decide) (fun h2394 => ?_) (fun h2394 => ?_)
                  · skip
                    refine tr_aload_n dX12_readEvent_97 rfl ?_
                    refine tr_getR dX12_readEvent_98 fl12_188 (kR15 hS2336.1 ta0) d2 ?_
                    refine q_getI dX12_readEvent_101 fl12_265 (kR14 hS2336.1 ta1) c2337 ?_
                    refine tr_istore dX12_readEvent_104 (by decide) (by decide) ?_
                    refine tr_aload_n dX12_readEvent_106 rfl ?_
                    refine tr_getR dX12_readEvent_107 fl12_188 (kR15 hS2336.1 ta0) d2 ?_
                    obtain ⟨a2395, d2396, ta2395⟩ := rf14_11 hW0 ta1
                    refine tr_getR dX12_readEvent_110 fl12_274 (kR14 hS2336.1 ta1) d2396 ?_
                    refine tr_iload dX12_readEvent_113 rfl ?_
                    refine tr_iload_n dX12_readEvent_115 rfl ?_
                    refine q_iastX dX12_readEvent_116 (kR54 hS2336.1 ta2395) (ti_in (nR54 hS2336.1 ta2395) (by omega) (by omega)) hS2336 ta2395 (by rfl) (hS2336.1.putK (m := a1) ta1 d2396 (by rw [c2337]; exact Int.le_of_eq (ti_nat (by omega)).symm)) ?_
                    intro I2401 hS2402 e2403 f2404
                    have c2405 : I2401 a1 2 = v37 := (f2404 _ _ (fun q => by have z := ta1; rw [q.1, ta2395] at z; exact absurd z (by decide))).trans c2337
                    have c2406 : I2401 a0 13 = v2375 := (f2404 _ _ (fun q => by have z := ta0; rw [q.1, ta2395] at z; exact absurd z (by decide))).trans c2376
                    have c2407 : I2401 a0 9 = v2377 := (f2404 _ _ (fun q => by have z := ta0; rw [q.1, ta2395] at z; exact absurd z (by decide))).trans c2378
                    have c2408 : I2401 a0 10 = v2380 := (f2404 _ _ (fun q => by have z := ta0; rw [q.1, ta2395] at z; exact absurd z (by decide))).trans c2381
                    have c2409 : I2401 a0 11 = v2383 := (f2404 _ _ (fun q => by have z := ta0; rw [q.1, ta2395] at z; exact absurd z (by decide))).trans c2384
                    have c2410 : I2401 a0 12 = v2387 := (f2404 _ _ (fun q => by have z := ta0; rw [q.1, ta2395] at z; exact absurd z (by decide))).trans c2388
                    have c2411 : I2401 a0 8 = v2389 := (f2404 _ _ (fun q => by have z := ta0; rw [q.1, ta2395] at z; exact absurd z (by decide))).trans c2390
                    have hM2412 : NmM I2401 R0 L2330 a1 gQ := NmM.kp1 hM2374 f2404 ta2395 rfl rfl hS2336.1 ta1
                    refine tr_aload_n dX12_readEvent_117 rfl ?_
                    refine tr_getR dX12_readEvent_118 fl12_188 (kR15 hS2402.1 ta0) d2 ?_
                    obtain ⟨a2413, d2414, ta2413⟩ := rf14_12 hW0 ta1
                    refine tr_getR dX12_readEvent_121 fl12_277 (kR14 hS2402.1 ta1) d2414 ?_
                    refine tr_iload dX12_readEvent_124 rfl ?_
                    refine tr_iload_n dX12_readEvent_126 rfl ?_
                    refine q_iastX dX12_readEvent_127 (kR55 hS2402.1 ta2413) (ti_in (nR55 hS2402.1 ta2413) (by omega) (by omega)) hS2402 ta2413 (by rfl) (hS2402.1.putH (m := a1) ta1 d2414 (by rw [c2405]; exact Int.le_of_eq (ti_nat (by omega)).symm) (by omega)) ?_
                    intro I2419 hS2420 e2421 f2422
                    have c2423 : I2419 a1 2 = v37 := (f2422 _ _ (fun q => by have z := ta1; rw [q.1, ta2413] at z; exact absurd z (by decide))).trans c2405
                    have c2424 : I2419 a0 13 = v2375 := (f2422 _ _ (fun q => by have z := ta0; rw [q.1, ta2413] at z; exact absurd z (by decide))).trans c2406
                    have c2425 : I2419 a0 9 = v2377 := (f2422 _ _ (fun q => by have z := ta0; rw [q.1, ta2413] at z; exact absurd z (by decide))).trans c2407
                    have c2426 : I2419 a0 10 = v2380 := (f2422 _ _ (fun q => by have z := ta0; rw [q.1, ta2413] at z; exact absurd z (by decide))).trans c2408
                    have c2427 : I2419 a0 11 = v2383 := (f2422 _ _ (fun q => by have z := ta0; rw [q.1, ta2413] at z; exact absurd z (by decide))).trans c2409
                    have c2428 : I2419 a0 12 = v2387 := (f2422 _ _ (fun q => by have z := ta0; rw [q.1, ta2413] at z; exact absurd z (by decide))).trans c2410
                    have c2429 : I2419 a0 8 = v2389 := (f2422 _ _ (fun q => by have z := ta0; rw [q.1, ta2413] at z; exact absurd z (by decide))).trans c2411
                    have c2430 : I2419 a2395 v37.toNatClampNeg = x1 := (f2422 _ _ (fun q => by have z := ta2395; rw [q.1, ta2413] at z; exact absurd z (by decide))).trans e2403
                    have hM2431 : NmM I2419 R0 L2330 a1 gQ := NmM.kp1 hM2412 f2422 ta2413 rfl rfl hS2402.1 ta1
                    refine tr_aload_n dX12_readEvent_128 rfl ?_
                    refine tr_getR dX12_readEvent_129 fl12_188 (kR15 hS2420.1 ta0) d2 ?_
                    obtain ⟨a2432, d2433, ta2432⟩ := rf14_13 hW0 ta1
                    refine tr_getR dX12_readEvent_132 fl12_280 (kR14 hS2420.1 ta1) d2433 ?_
                    refine tr_iload dX12_readEvent_135 rfl ?_
                    refine tr_iload_n dX12_readEvent_137 rfl ?_
                    refine q_iast dX12_readEvent_138 (kR56 hS2420.1 ta2432) (ti_in (nR56 hS2420.1 ta2432) (by omega) (by omega)) hS2420 ta2432 (by show (0 : Int) ≤ v2273.toInt ∧ v2273.toInt ≤ (240 : Int); omega) rfl (by rfl) ?_
                    intro I2434 hS2435 e2437 f2436
                    have c2438 : I2434 a1 2 = v37 := (f2436 _ _ (fun q => by have z := ta1; rw [q.1, ta2432] at z; exact absurd z (by decide))).trans c2423
                    have c2439 : I2434 a0 13 = v2375 := (f2436 _ _ (fun q => by have z := ta0; rw [q.1, ta2432] at z; exact absurd z (by decide))).trans c2424
                    have c2440 : I2434 a0 9 = v2377 := (f2436 _ _ (fun q => by have z := ta0; rw [q.1, ta2432] at z; exact absurd z (by decide))).trans c2425
                    have c2441 : I2434 a0 10 = v2380 := (f2436 _ _ (fun q => by have z := ta0; rw [q.1, ta2432] at z; exact absurd z (by decide))).trans c2426
                    have c2442 : I2434 a0 11 = v2383 := (f2436 _ _ (fun q => by have z := ta0; rw [q.1, ta2432] at z; exact absurd z (by decide))).trans c2427
                    have c2443 : I2434 a0 12 = v2387 := (f2436 _ _ (fun q => by have z := ta0; rw [q.1, ta2432] at z; exact absurd z (by decide))).trans c2428
                    have c2444 : I2434 a0 8 = v2389 := (f2436 _ _ (fun q => by have z := ta0; rw [q.1, ta2432] at z; exact absurd z (by decide))).trans c2429
                    have c2445 : I2434 a2395 v37.toNatClampNeg = x1 := (f2436 _ _ (fun q => by have z := ta2395; rw [q.1, ta2432] at z; exact absurd z (by decide))).trans c2430
                    have c2446 : I2434 a2413 v37.toNatClampNeg = v2214 := (f2436 _ _ (fun q => by have z := ta2413; rw [q.1, ta2432] at z; exact absurd z (by decide))).trans e2421
                    have hM2447 : NmM I2434 R0 L2330 a1 gQ := NmM.kp1 hM2431 f2436 ta2432 rfl rfl hS2420.1 ta1
                    refine tr_aload_n dX12_readEvent_139 rfl ?_
                    refine tr_getR dX12_readEvent_140 fl12_188 (kR15 hS2435.1 ta0) d2 ?_
                    obtain ⟨a2448, d2449, ta2448⟩ := rf14_14 hW0 ta1
                    refine tr_getR dX12_readEvent_143 fl12_283 (kR14 hS2435.1 ta1) d2449 ?_
                    refine tr_iload dX12_readEvent_146 rfl ?_
                    refine tr_iload dX12_readEvent_148 rfl ?_
                    refine q_iast dX12_readEvent_150 (kR57 hS2435.1 ta2448) (ti_in (nR57 hS2435.1 ta2448) (by omega) (by omega)) hS2435 ta2448 (by show (0 : Int) ≤ v2333.toInt ∧ v2333.toInt ≤ (240 : Int); omega) rfl (by rfl) ?_
                    intro I2450 hS2451 e2453 f2452
                    have c2454 : I2450 a1 2 = v37 := (f2452 _ _ (fun q => by have z := ta1; rw [q.1, ta2448] at z; exact absurd z (by decide))).trans c2438
                    have c2455 : I2450 a0 13 = v2375 := (f2452 _ _ (fun q => by have z := ta0; rw [q.1, ta2448] at z; exact absurd z (by decide))).trans c2439
                    have c2456 : I2450 a0 9 = v2377 := (f2452 _ _ (fun q => by have z := ta0; rw [q.1, ta2448] at z; exact absurd z (by decide))).trans c2440
                    have c2457 : I2450 a0 10 = v2380 := (f2452 _ _ (fun q => by have z := ta0; rw [q.1, ta2448] at z; exact absurd z (by decide))).trans c2441
                    have c2458 : I2450 a0 11 = v2383 := (f2452 _ _ (fun q => by have z := ta0; rw [q.1, ta2448] at z; exact absurd z (by decide))).trans c2442
                    have c2459 : I2450 a0 12 = v2387 := (f2452 _ _ (fun q => by have z := ta0; rw [q.1, ta2448] at z; exact absurd z (by decide))).trans c2443
                    have c2460 : I2450 a0 8 = v2389 := (f2452 _ _ (fun q => by have z := ta0; rw [q.1, ta2448] at z; exact absurd z (by decide))).trans c2444
                    have c2461 : I2450 a2395 v37.toNatClampNeg = x1 := (f2452 _ _ (fun q => by have z := ta2395; rw [q.1, ta2448] at z; exact absurd z (by decide))).trans c2445
                    have c2462 : I2450 a2413 v37.toNatClampNeg = v2214 := (f2452 _ _ (fun q => by have z := ta2413; rw [q.1, ta2448] at z; exact absurd z (by decide))).trans c2446
                    have hM2463 : NmM I2450 R0 L2330 a1 gQ := NmM.kp1 hM2447 f2452 ta2448 rfl rfl hS2435.1 ta1
                    refine tr_aload_n dX12_readEvent_151 rfl ?_
                    refine tr_getR dX12_readEvent_152 fl12_188 (kR15 hS2451.1 ta0) d2 ?_
                    refine tr_dup dX12_readEvent_155 rfl ?_
                    refine q_getI dX12_readEvent_156 fl12_265 (kR14 hS2451.1 ta1) c2454 ?_
                    refine q_iconst dX12_readEvent_159 (by decide) ?_
                    intro v2464 h2465
                    refine q_iaddE dX12_readEvent_160 (by intros; omega) ?_
                    intro v2466 h2467
                    refine q_putX dX12_readEvent_161 fl12_265 (kR14 hS2451.1 ta1) (Or.inl rfl) hS2451 ta1 (by decide +kernel) (hS2451.1.putE (i := v37.toNatClampNeg) ta1 d2396 d2414 (by rw [c2454]; exact (ti_nat (by omega)).symm) (by rw [c2454]; omega) (by omega) (by rw [c2461, c2462]; omega)) ?_
                    intro I2468 hS2469 e2470 f2471
                    have c2472 : I2468 a0 13 = v2375 := (f2471 _ _ (fun q => absurd q.2 (by decide))).trans c2455
                    have c2473 : I2468 a0 9 = v2377 := (f2471 _ _ (fun q => absurd q.2 (by decide))).trans c2456
                    have c2474 : I2468 a0 10 = v2380 := (f2471 _ _ (fun q => absurd q.2 (by decide))).trans c2457
                    have c2475 : I2468 a0 11 = v2383 := (f2471 _ _ (fun q => absurd q.2 (by decide))).trans c2458
                    have c2476 : I2468 a0 12 = v2387 := (f2471 _ _ (fun q => absurd q.2 (by decide))).trans c2459
                    have c2477 : I2468 a0 8 = v2389 := (f2471 _ _ (fun q => absurd q.2 (by decide))).trans c2460
                    have c2478 : I2468 a2395 v37.toNatClampNeg = x1 := (f2471 _ _ (fun q => by have z := ta2395; rw [q.1, ta1] at z; exact absurd z (by decide))).trans c2461
                    have c2479 : I2468 a2413 v37.toNatClampNeg = v2214 := (f2471 _ _ (fun q => by have z := ta2413; rw [q.1, ta1] at z; exact absurd z (by decide))).trans c2462
                    have hM2480 : NmM I2468 R0 L2330 a1 gQ := NmM.kp1 hM2463 f2471 ta1 rfl rfl hS2451.1 ta1
                    have eF := hF.eq
                    have eP := hP.eq
                    have es2481 := evS_c2 (B := gB) (Q := gQ) (k := srt gB gs) (s := (tkN gB gs)) (by omega)
                    obtain ⟨v2482, c2483⟩ : ∃ v, I2468 a0 14 = v := ⟨_, rfl⟩
                    exact tr_vret hZ dX12_readEvent_164 rfl (by decide) (by decide) ⟨rfl, rfl, rfl, rfl, rfl, hS2469, (Or.inl ⟨(by (try rw [w2187]); (try rw [es2481]); first | done | omega), (fun q0 z0 => by obtain rfl := Option.some.inj ((d2).symm.trans z0); (try rw [w2187]); (try rw [es2481]); (try rw [((hS2469.cell ta1 (by decide +kernel)).trans c30)]); first | done | omega), (fun q0 z0 => by obtain rfl := Option.some.inj ((d2).symm.trans z0); (try rw [w2187]); (try rw [es2481]); (try rw [((hS2469.cell ta1 (by decide +kernel)).trans c34)]); first | done | omega), (fun q0 z0 => by obtain rfl := Option.some.inj ((d2).symm.trans z0); (try rw [w2187]); (try rw [es2481]); (try rw [e2470]); first | done | omega), (fun q0 z0 => by obtain rfl := Option.some.inj ((d2).symm.trans z0); (try rw [w2187]); (try rw [es2481]); (try rw [((hS2469.cell ta1 (by decide +kernel)).trans c42)]); first | done | omega), (fun q0 z0 => by obtain rfl := Option.some.inj ((d2).symm.trans z0); (try rw [w2187]); (try rw [es2481]); (try rw [((hS2469.cell ta1 (by decide +kernel)).trans c46)]); first | done | omega), (fun q0 z0 => by obtain rfl := Option.some.inj ((d2).symm.trans z0); (try rw [w2187]); (try rw [es2481]); (try rw [((hS2469.cell ta1 (by decide +kernel)).trans c50)]); first | done | omega), (fun q0 z0 => by obtain rfl := Option.some.inj ((d2).symm.trans z0); (try rw [w2187]); (try rw [es2481]); (try rw [((hS2469.cell ta1 (by decide +kernel)).trans c54)]); first | done | omega), (fun q0 z0 => by obtain rfl := Option.some.inj ((d2).symm.trans z0); (try rw [w2187]); (try rw [es2481]); (try rw [((hS2469.cell ta1 (by decide +kernel)).trans c58)]); first | done | omega), (by (try rw [w2187]); (try rw [es2481]); (try rw [c2472]); (try rw [c65]); first | done | omega), (by (try rw [w2187]); (try rw [es2481]); (try rw [c2473]); first | done | omega), (by (try rw [w2187]); (try rw [es2481]); (try rw [c2473]); first | done | omega), (by (try rw [w2187]); (try rw [es2481]); (try rw [c2474]); first | done | omega), (by (try rw [w2187]); (try rw [es2481]); (try rw [c2475]); first | done | omega), (by (try rw [w2187]); (try rw [es2481]); (try rw [c2386]); first | done | assumption), (by (try rw [w2187]); (try rw [es2481]); (try rw [c2476]); first | done | assumption), (by (try rw [w2187]); (try rw [es2481]); (try rw [c2477]); first | done | assumption), hL2373, (fun b hb => (Option.some.inj (d2.symm.trans hb)) ▸ NmM.ln (NmM.bd (k := srt gB gs) hM2480 (by omega) (by omega)) rfl), trivial⟩), trivial⟩
                  · skip
                    exfalso; omega
                · skip
                  obtain ⟨v2484, c2485⟩ : ∃ v, I2328 a0 9 = v := ⟨_, rfl⟩
                  have b2486 := iv15_9 hS2336.1 ta0 c2485
                  rw [c2485] at p2355
                  obtain ⟨v2487, c2488⟩ : ∃ v, I2328 a0 13 = v := ⟨_, rfl⟩
                  rw [c2488] at p2356
                  obtain ⟨v2489, c2490⟩ : ∃ v, I2328 a0 14 = v := ⟨_, rfl⟩
                  rw [c2490] at p2357
                  replace hF := hF.pos (by omega)
                  replace hP := hP.pos (by omega)
                  refine tr_istore dX12_readEvent_86 (by decide) (by decide) ?_
                  refine tr_aload_n dX12_readEvent_88 rfl ?_
                  refine q_getI dX12_readEvent_89 fl12_99 (kR15 hS2336.1 ta0) c2485 ?_
                  refine q_iconst dX12_readEvent_92 (by decide) ?_
                  intro v2491 h2492
                  refine q_icmp_ne 97 dX12_readEvent_93 (by decide) (fun h2493 => ?_) (fun h2493 => ?_)
                  · skip
                    exfalso; omega
                  · skip
                    have eF := hF.eq
                    have eP := hP.eq
                    obtain ⟨v2494, c2495⟩ : ∃ v, I2328 a0 10 = v := ⟨_, rfl⟩
                    have b2496 := iv15_10 hS2336.1 ta0 c2495
                    obtain ⟨v2497, c2498⟩ : ∃ v, I2328 a0 11 = v := ⟨_, rfl⟩
                    obtain ⟨y2499, c2500⟩ : ∃ v, L2330 a0 15 = v := ⟨_, rfl⟩
                    obtain ⟨v2501, c2502⟩ : ∃ v, I2328 a0 12 = v := ⟨_, rfl⟩
                    obtain ⟨v2503, c2504⟩ : ∃ v, I2328 a0 8 = v := ⟨_, rfl⟩
                    have b2505 := iv15_8 hS2336.1 ta0 c2504
                    exact tr_vret hZ dX12_readEvent_96 rfl (by decide) (by decide) ⟨rfl, rfl, rfl, rfl, rfl, hS2336, (Or.inr (⟨(by (try rw [w2187]); first | done | omega), (by (try rw [w2187]); (try rw [c2485]); first | done | omega), (by (try rw [w2187]); (try rw [c2488]); first | done | omega), (by (try rw [w2187]); (try rw [c2490]); first | done | omega), trivial⟩)), trivial⟩
                · skip
                  obtain ⟨v2506, c2507⟩ : ∃ v, I2328 a0 9 = v := ⟨_, rfl⟩
                  have b2508 := iv15_9 hS2336.1 ta0 c2507
                  rw [c2507] at p2362
                  obtain ⟨v2509, c2510⟩ : ∃ v, I2328 a0 13 = v := ⟨_, rfl⟩
                  rw [c2510] at p2363
                  obtain ⟨v2511, c2512⟩ : ∃ v, I2328 a0 14 = v := ⟨_, rfl⟩
                  rw [c2512] at p2364
                  replace hF := hF.neg (by omega)
                  replace hP := hP.neg (by omega)
                  replace hF := hF.pos (by omega)
                  replace hP := hP.pos (by omega)
                  refine tr_istore dX12_readEvent_86 (by decide) (by decide) ?_
                  refine tr_aload_n dX12_readEvent_88 rfl ?_
                  refine q_getI dX12_readEvent_89 fl12_99 (kR15 hS2336.1 ta0) c2507 ?_
                  refine q_iconst dX12_readEvent_92 (by decide) ?_
                  intro v2513 h2514
                  refine q_icmp_ne 97 dX12_readEvent_93 (by decide) (fun h2515 => ?_) (fun h2515 => ?_)
                  · skip
                    exfalso; omega
                  · skip
                    have eF := hF.eq
                    have eP := hP.eq
                    obtain ⟨v2516, c2517⟩ : ∃ v, I2328 a0 10 = v := ⟨_, rfl⟩
                    have b2518 := iv15_10 hS2336.1 ta0 c2517
                    obtain ⟨v2519, c2520⟩ : ∃ v, I2328 a0 11 = v := ⟨_, rfl⟩
                    obtain ⟨y2521, c2522⟩ : ∃ v, L2330 a0 15 = v := ⟨_, rfl⟩
                    obtain ⟨v2523, c2524⟩ : ∃ v, I2328 a0 12 = v := ⟨_, rfl⟩
                    obtain ⟨v2525, c2526⟩ : ∃ v, I2328 a0 8 = v := ⟨_, rfl⟩
                    have b2527 := iv15_8 hS2336.1 ta0 c2526
                    exact tr_vret hZ dX12_readEvent_96 rfl (by decide) (by decide) ⟨rfl, rfl, rfl, rfl, rfl, hS2336, (Or.inr (⟨(by (try rw [w2187]); first | done | omega), (by (try rw [w2187]); (try rw [c2507]); first | done | omega), (by (try rw [w2187]); (try rw [c2510]); first | done | omega), (by (try rw [w2187]); (try rw [c2512]); first | done | omega), trivial⟩)), trivial⟩
                · skip
                  obtain ⟨v2528, c2529⟩ : ∃ v, I2328 a0 9 = v := ⟨_, rfl⟩
                  have b2530 := iv15_9 hS2336.1 ta0 c2529
                  rw [c2529] at p2370
                  obtain ⟨v2531, c2532⟩ : ∃ v, I2328 a0 13 = v := ⟨_, rfl⟩
                  rw [c2532] at p2371
                  obtain ⟨v2533, c2534⟩ : ∃ v, I2328 a0 14 = v := ⟨_, rfl⟩
                  rw [c2534] at p2372
                  replace hF := hF.neg (by omega)
                  replace hP := hP.neg (by omega)
                  replace hF := hF.neg (by omega)
                  replace hP := hP.neg (by omega)
                  replace hF := hF.pos (by omega)
                  replace hP := hP.pos (by omega)
                  refine tr_istore dX12_readEvent_86 (by decide) (by decide) ?_
                  refine tr_aload_n dX12_readEvent_88 rfl ?_
                  refine q_getI dX12_readEvent_89 fl12_99 (kR15 hS2336.1 ta0) c2529 ?_
                  refine q_iconst dX12_readEvent_92 (by decide) ?_
                  intro v2535 h2536
                  refine q_icmp_ne 97 dX12_readEvent_93 (by decide) (fun h2537 => ?_) (fun h2537 => ?_)
                  · skip
                    exfalso; omega
                  · skip
                    have eF := hF.eq
                    have eP := hP.eq
                    obtain ⟨v2538, c2539⟩ : ∃ v, I2328 a0 10 = v := ⟨_, rfl⟩
                    have b2540 := iv15_10 hS2336.1 ta0 c2539
                    obtain ⟨v2541, c2542⟩ : ∃ v, I2328 a0 11 = v := ⟨_, rfl⟩
                    obtain ⟨y2543, c2544⟩ : ∃ v, L2330 a0 15 = v := ⟨_, rfl⟩
                    obtain ⟨v2545, c2546⟩ : ∃ v, I2328 a0 12 = v := ⟨_, rfl⟩
                    obtain ⟨v2547, c2548⟩ : ∃ v, I2328 a0 8 = v := ⟨_, rfl⟩
                    have b2549 := iv15_8 hS2336.1 ta0 c2548
                    exact tr_vret hZ dX12_readEvent_96 rfl (by decide) (by decide) ⟨rfl, rfl, rfl, rfl, rfl, hS2336, (Or.inr (⟨(by (try rw [w2187]); first | done | omega), (by (try rw [w2187]); (try rw [c2529]); first | done | omega), (by (try rw [w2187]); (try rw [c2532]); first | done | omega), (by (try rw [w2187]); (try rw [c2534]); first | done | omega), trivial⟩)), trivial⟩
              · skip
                exfalso; omega
            · skip
              obtain ⟨v2550, c2551⟩ : ∃ v, I2268 a0 9 = v := ⟨_, rfl⟩
              have b2552 := iv15_9 hS2276.1 ta0 c2551
              rw [c2551] at p2293
              obtain ⟨v2553, c2554⟩ : ∃ v, I2268 a0 13 = v := ⟨_, rfl⟩
              rw [c2554] at p2294
              obtain ⟨v2555, c2556⟩ : ∃ v, I2268 a0 14 = v := ⟨_, rfl⟩
              rw [c2556] at p2295
              replace hF := hF.pos (by omega)
              replace hP := hP.pos (by omega)
              refine tr_istore_n dX12_readEvent_57 (by decide) (by decide) ?_
              refine tr_iload_n dX12_readEvent_58 rfl ?_
              refine q_iconst dX12_readEvent_59 (by decide) ?_
              intro v2557 h2558
              refine q_icmp_ne 69 dX12_readEvent_60 (by decide) (fun h2559 => ?_) (fun h2559 => ?_)
              · skip
                refine tr_aload_n dX12_readEvent_69 rfl ?_
                refine tr_ldcwS dX12_readEvent_70 ld12_272 ?_
                refine tr_iload_n dX12_readEvent_73 rfl ?_
                refine q_iconst dX12_readEvent_74 (by decide) ?_
                intro v2560 h2561
                refine q_iaddE dX12_readEvent_75 (by intros; omega) ?_
                intro v2562 h2563
                refine tr_aload_n dX12_readEvent_76 rfl ?_
                refine tr_getR dX12_readEvent_77 fl12_188 (kR15 hS2276.1 ta0) d2 ?_
                refine q_getI dX12_readEvent_80 fl12_192 (kR14 hS2276.1 ta1) ((hS2276.cell ta1 (by decide +kernel)).trans c30) ?_
                refine q_callVi hE (M' := mX12_readPart) (as := [_, _, _]) dX12_readEvent_83 lk12_249 inX12_readPart seX12_readPart myX12_readPart (by decide) ⟨by decide, by decide⟩ rfl (kR15 hS2276.1 ta0) (Nat.le_of_ble_eq_true rfl) rfl rfl (by decide) (by decide) (k_X12_readPart hS2276.1 ta0 (by decide)) ?_
                rintro v2568 cn' K' N' I2564 R2565 L2566 ⟨rfl, rfl, rfl, rfl, g2567, p2569, w2570, -⟩
                have hS2571 := hS2276.tr g2567 (by decide +kernel) (by decide +kernel)
                have c2572 : I2564 a1 2 = v37 := (g2567.cell ta1 (by decide +kernel)).trans c2277
                have b2573 : 1 ≤ v2568.toInt ∧ v2568.toInt ≤ 240 := by omega
                clear p2569
                have ov2574 := w2570.over (by rw [c2551]; omega)
                obtain ⟨v2575, c2576⟩ : ∃ v, I2564 a0 9 = v := ⟨_, rfl⟩
                have b2577 := iv15_9 hS2571.1 ta0 c2576
                obtain ⟨v2578, c2579⟩ : ∃ v, I2564 a0 13 = v := ⟨_, rfl⟩
                obtain ⟨v2580, c2581⟩ : ∃ v, I2564 a0 14 = v := ⟨_, rfl⟩
                (try rw [c2576] at ov2574)
                (try rw [c2579] at ov2574)
                (try rw [c2581] at ov2574)
                (try rw [c2551] at ov2574)
                (try rw [c2554] at ov2574)
                (try rw [c2556] at ov2574)
                refine tr_istore dX12_readEvent_86 (by decide) (by decide) ?_
                refine tr_aload_n dX12_readEvent_88 rfl ?_
                refine q_getI dX12_readEvent_89 fl12_99 (kR15 hS2571.1 ta0) c2576 ?_
                refine q_iconst dX12_readEvent_92 (by decide) ?_
                intro v2582 h2583
                refine q_icmp_ne 97 dX12_readEvent_93 (by decide) (fun h2584 => ?_) (fun h2584 => ?_)
                · skip
                  exfalso; omega
                · skip
                  have eF := hF.eq
                  have eP := hP.eq
                  obtain ⟨v2585, c2586⟩ : ∃ v, I2564 a0 10 = v := ⟨_, rfl⟩
                  have b2587 := iv15_10 hS2571.1 ta0 c2586
                  obtain ⟨v2588, c2589⟩ : ∃ v, I2564 a0 11 = v := ⟨_, rfl⟩
                  obtain ⟨y2590, c2591⟩ : ∃ v, L2566 a0 15 = v := ⟨_, rfl⟩
                  obtain ⟨v2592, c2593⟩ : ∃ v, I2564 a0 12 = v := ⟨_, rfl⟩
                  obtain ⟨v2594, c2595⟩ : ∃ v, I2564 a0 8 = v := ⟨_, rfl⟩
                  have b2596 := iv15_8 hS2571.1 ta0 c2595
                  exact tr_vret hZ dX12_readEvent_96 rfl (by decide) (by decide) ⟨rfl, rfl, rfl, rfl, rfl, hS2571, (Or.inr (⟨(by (try rw [w2187]); first | done | omega), (by (try rw [w2187]); (try rw [c2576]); first | done | omega), (by (try rw [w2187]); (try rw [c2579]); first | done | omega), (by (try rw [w2187]); (try rw [c2581]); first | done | omega), trivial⟩)), trivial⟩
              · skip
                exfalso; omega
            · skip
              obtain ⟨v2597, c2598⟩ : ∃ v, I2268 a0 9 = v := ⟨_, rfl⟩
              have b2599 := iv15_9 hS2276.1 ta0 c2598
              rw [c2598] at p2299
              obtain ⟨v2600, c2601⟩ : ∃ v, I2268 a0 13 = v := ⟨_, rfl⟩
              rw [c2601] at p2300
              obtain ⟨v2602, c2603⟩ : ∃ v, I2268 a0 14 = v := ⟨_, rfl⟩
              rw [c2603] at p2301
              replace hF := hF.neg (by omega)
              replace hP := hP.neg (by omega)
              replace hF := hF.pos (by omega)
              replace hP := hP.pos (by omega)
              refine tr_istore_n dX12_readEvent_57 (by decide) (by decide) ?_
              refine tr_iload_n dX12_readEvent_58 rfl ?_
              refine q_iconst dX12_readEvent_59 (by decide) ?_
              intro v2604 h2605
              refine q_icmp_ne 69 dX12_readEvent_60 (by decide) (fun h2606 => ?_) (fun h2606 => ?_)
              · skip
                refine tr_aload_n dX12_readEvent_69 rfl ?_
                refine tr_ldcwS dX12_readEvent_70 ld12_272 ?_
                refine tr_iload_n dX12_readEvent_73 rfl ?_
                refine q_iconst dX12_readEvent_74 (by decide) ?_
                intro v2607 h2608
                refine q_iaddE dX12_readEvent_75 (by intros; omega) ?_
                intro v2609 h2610
                refine tr_aload_n dX12_readEvent_76 rfl ?_
                refine tr_getR dX12_readEvent_77 fl12_188 (kR15 hS2276.1 ta0) d2 ?_
                refine q_getI dX12_readEvent_80 fl12_192 (kR14 hS2276.1 ta1) ((hS2276.cell ta1 (by decide +kernel)).trans c30) ?_
                refine q_callVi hE (M' := mX12_readPart) (as := [_, _, _]) dX12_readEvent_83 lk12_249 inX12_readPart seX12_readPart myX12_readPart (by decide) ⟨by decide, by decide⟩ rfl (kR15 hS2276.1 ta0) (Nat.le_of_ble_eq_true rfl) rfl rfl (by decide) (by decide) (k_X12_readPart hS2276.1 ta0 (by decide)) ?_
                rintro v2615 cn' K' N' I2611 R2612 L2613 ⟨rfl, rfl, rfl, rfl, g2614, p2616, w2617, -⟩
                have hS2618 := hS2276.tr g2614 (by decide +kernel) (by decide +kernel)
                have c2619 : I2611 a1 2 = v37 := (g2614.cell ta1 (by decide +kernel)).trans c2277
                have b2620 : 1 ≤ v2615.toInt ∧ v2615.toInt ≤ 240 := by omega
                clear p2616
                have ov2621 := w2617.over (by rw [c2598]; omega)
                obtain ⟨v2622, c2623⟩ : ∃ v, I2611 a0 9 = v := ⟨_, rfl⟩
                have b2624 := iv15_9 hS2618.1 ta0 c2623
                obtain ⟨v2625, c2626⟩ : ∃ v, I2611 a0 13 = v := ⟨_, rfl⟩
                obtain ⟨v2627, c2628⟩ : ∃ v, I2611 a0 14 = v := ⟨_, rfl⟩
                (try rw [c2623] at ov2621)
                (try rw [c2626] at ov2621)
                (try rw [c2628] at ov2621)
                (try rw [c2598] at ov2621)
                (try rw [c2601] at ov2621)
                (try rw [c2603] at ov2621)
                refine tr_istore dX12_readEvent_86 (by decide) (by decide) ?_
                refine tr_aload_n dX12_readEvent_88 rfl ?_
                refine q_getI dX12_readEvent_89 fl12_99 (kR15 hS2618.1 ta0) c2623 ?_
                refine q_iconst dX12_readEvent_92 (by decide) ?_
                intro v2629 h2630
                refine q_icmp_ne 97 dX12_readEvent_93 (by decide) (fun h2631 => ?_) (fun h2631 => ?_)
                · skip
                  exfalso; omega
                · skip
                  have eF := hF.eq
                  have eP := hP.eq
                  obtain ⟨v2632, c2633⟩ : ∃ v, I2611 a0 10 = v := ⟨_, rfl⟩
                  have b2634 := iv15_10 hS2618.1 ta0 c2633
                  obtain ⟨v2635, c2636⟩ : ∃ v, I2611 a0 11 = v := ⟨_, rfl⟩
                  obtain ⟨y2637, c2638⟩ : ∃ v, L2613 a0 15 = v := ⟨_, rfl⟩
                  obtain ⟨v2639, c2640⟩ : ∃ v, I2611 a0 12 = v := ⟨_, rfl⟩
                  obtain ⟨v2641, c2642⟩ : ∃ v, I2611 a0 8 = v := ⟨_, rfl⟩
                  have b2643 := iv15_8 hS2618.1 ta0 c2642
                  exact tr_vret hZ dX12_readEvent_96 rfl (by decide) (by decide) ⟨rfl, rfl, rfl, rfl, rfl, hS2618, (Or.inr (⟨(by (try rw [w2187]); first | done | omega), (by (try rw [w2187]); (try rw [c2623]); first | done | omega), (by (try rw [w2187]); (try rw [c2626]); first | done | omega), (by (try rw [w2187]); (try rw [c2628]); first | done | omega), trivial⟩)), trivial⟩
              · skip
                exfalso; omega
          · skip
            obtain ⟨v2644, c2645⟩ : ∃ v, I2209 a0 9 = v := ⟨_, rfl⟩
            have b2646 := iv15_9 hS2217.1 ta0 c2645
            rw [c2645] at p2234
            obtain ⟨v2647, c2648⟩ : ∃ v, I2209 a0 13 = v := ⟨_, rfl⟩
            rw [c2648] at p2235
            obtain ⟨v2649, c2650⟩ : ∃ v, I2209 a0 14 = v := ⟨_, rfl⟩
            rw [c2650] at p2236
            replace hF := hF.pos (by omega)
            replace hP := hP.pos (by omega)
            refine tr_goto 42 dX12_readEvent_37 (by decide) ?_
            refine tr_istore_n dX12_readEvent_42 (by decide) (by decide) ?_
            refine tr_aload_n dX12_readEvent_43 rfl ?_
            refine q_iconst dX12_readEvent_44 (by decide) ?_
            intro v2651 h2652
            refine tr_aload_n dX12_readEvent_45 rfl ?_
            refine tr_getR dX12_readEvent_46 fl12_188 (kR15 hS2217.1 ta0) d2 ?_
            refine q_getI dX12_readEvent_49 fl12_192 (kR14 hS2217.1 ta1) ((hS2217.cell ta1 (by decide +kernel)).trans c30) ?_
            refine q_iconst dX12_readEvent_52 (by decide) ?_
            intro v2653 h2654
            refine q_isubE dX12_readEvent_53 (by intros; omega) ?_
            intro v2655 h2656
            refine q_callVi hE (M' := mX12_readWhole) (as := [_, _]) dX12_readEvent_54 lk12_161 inX12_readWhole seX12_readWhole myX12_readWhole (by decide) ⟨by decide, by decide⟩ rfl (kR15 hS2217.1 ta0) (Nat.le_of_ble_eq_true rfl) rfl rfl (by decide) (by decide) (k_X12_readWhole hS2217.1 ta0) ?_
            rintro v2661 cn' K' N' I2657 R2658 L2659 ⟨rfl, rfl, rfl, rfl, g2660, p2662, w2663, -⟩
            have hS2664 := hS2217.tr g2660 (by decide +kernel) (by decide +kernel)
            have c2665 : I2657 a1 2 = v37 := (g2660.cell ta1 (by decide +kernel)).trans c2218
            have b2666 : 0 ≤ v2661.toInt ∧ v2661.toInt ≤ 239 := by omega
            clear p2662
            have ov2667 := w2663.over (by rw [c2645]; omega)
            obtain ⟨v2668, c2669⟩ : ∃ v, I2657 a0 9 = v := ⟨_, rfl⟩
            have b2670 := iv15_9 hS2664.1 ta0 c2669
            obtain ⟨v2671, c2672⟩ : ∃ v, I2657 a0 13 = v := ⟨_, rfl⟩
            obtain ⟨v2673, c2674⟩ : ∃ v, I2657 a0 14 = v := ⟨_, rfl⟩
            (try rw [c2669] at ov2667)
            (try rw [c2672] at ov2667)
            (try rw [c2674] at ov2667)
            (try rw [c2645] at ov2667)
            (try rw [c2648] at ov2667)
            (try rw [c2650] at ov2667)
            refine tr_istore_n dX12_readEvent_57 (by decide) (by decide) ?_
            refine tr_iload_n dX12_readEvent_58 rfl ?_
            refine q_iconst dX12_readEvent_59 (by decide) ?_
            intro v2675 h2676
            refine q_icmp_ne 69 dX12_readEvent_60 (by decide) (fun h2677 => ?_) (fun h2677 => ?_)
            · skip
              refine tr_aload_n dX12_readEvent_69 rfl ?_
              refine tr_ldcwS dX12_readEvent_70 ld12_272 ?_
              refine tr_iload_n dX12_readEvent_73 rfl ?_
              refine q_iconst dX12_readEvent_74 (by decide) ?_
              intro v2678 h2679
              refine q_iaddE dX12_readEvent_75 (by intros; omega) ?_
              intro v2680 h2681
              refine tr_aload_n dX12_readEvent_76 rfl ?_
              refine tr_getR dX12_readEvent_77 fl12_188 (kR15 hS2664.1 ta0) d2 ?_
              refine q_getI dX12_readEvent_80 fl12_192 (kR14 hS2664.1 ta1) ((hS2664.cell ta1 (by decide +kernel)).trans c30) ?_
              refine q_callVi hE (M' := mX12_readPart) (as := [_, _, _]) dX12_readEvent_83 lk12_249 inX12_readPart seX12_readPart myX12_readPart (by decide) ⟨by decide, by decide⟩ rfl (kR15 hS2664.1 ta0) (Nat.le_of_ble_eq_true rfl) rfl rfl (by decide) (by decide) (k_X12_readPart hS2664.1 ta0 (by decide)) ?_
              rintro v2686 cn' K' N' I2682 R2683 L2684 ⟨rfl, rfl, rfl, rfl, g2685, p2687, w2688, -⟩
              have hS2689 := hS2664.tr g2685 (by decide +kernel) (by decide +kernel)
              have c2690 : I2682 a1 2 = v37 := (g2685.cell ta1 (by decide +kernel)).trans c2665
              have b2691 : 1 ≤ v2686.toInt ∧ v2686.toInt ≤ 240 := by omega
              clear p2687
              have ov2692 := w2688.over (by rw [c2669]; omega)
              obtain ⟨v2693, c2694⟩ : ∃ v, I2682 a0 9 = v := ⟨_, rfl⟩
              have b2695 := iv15_9 hS2689.1 ta0 c2694
              obtain ⟨v2696, c2697⟩ : ∃ v, I2682 a0 13 = v := ⟨_, rfl⟩
              obtain ⟨v2698, c2699⟩ : ∃ v, I2682 a0 14 = v := ⟨_, rfl⟩
              (try rw [c2694] at ov2692)
              (try rw [c2697] at ov2692)
              (try rw [c2699] at ov2692)
              (try rw [c2669] at ov2692)
              (try rw [c2672] at ov2692)
              (try rw [c2674] at ov2692)
              refine tr_istore dX12_readEvent_86 (by decide) (by decide) ?_
              refine tr_aload_n dX12_readEvent_88 rfl ?_
              refine q_getI dX12_readEvent_89 fl12_99 (kR15 hS2689.1 ta0) c2694 ?_
              refine q_iconst dX12_readEvent_92 (by decide) ?_
              intro v2700 h2701
              refine q_icmp_ne 97 dX12_readEvent_93 (by decide) (fun h2702 => ?_) (fun h2702 => ?_)
              · skip
                exfalso; omega
              · skip
                have eF := hF.eq
                have eP := hP.eq
                obtain ⟨v2703, c2704⟩ : ∃ v, I2682 a0 10 = v := ⟨_, rfl⟩
                have b2705 := iv15_10 hS2689.1 ta0 c2704
                obtain ⟨v2706, c2707⟩ : ∃ v, I2682 a0 11 = v := ⟨_, rfl⟩
                obtain ⟨y2708, c2709⟩ : ∃ v, L2684 a0 15 = v := ⟨_, rfl⟩
                obtain ⟨v2710, c2711⟩ : ∃ v, I2682 a0 12 = v := ⟨_, rfl⟩
                obtain ⟨v2712, c2713⟩ : ∃ v, I2682 a0 8 = v := ⟨_, rfl⟩
                have b2714 := iv15_8 hS2689.1 ta0 c2713
                exact tr_vret hZ dX12_readEvent_96 rfl (by decide) (by decide) ⟨rfl, rfl, rfl, rfl, rfl, hS2689, (Or.inr (⟨(by (try rw [w2187]); first | done | omega), (by (try rw [w2187]); (try rw [c2694]); first | done | omega), (by (try rw [w2187]); (try rw [c2697]); first | done | omega), (by (try rw [w2187]); (try rw [c2699]); first | done | omega), trivial⟩)), trivial⟩
            · skip
              exfalso; omega
          · skip
            obtain ⟨v2715, c2716⟩ : ∃ v, I2209 a0 9 = v := ⟨_, rfl⟩
            have b2717 := iv15_9 hS2217.1 ta0 c2716
            rw [c2716] at p2240
            obtain ⟨v2718, c2719⟩ : ∃ v, I2209 a0 13 = v := ⟨_, rfl⟩
            rw [c2719] at p2241
            obtain ⟨v2720, c2721⟩ : ∃ v, I2209 a0 14 = v := ⟨_, rfl⟩
            rw [c2721] at p2242
            replace hF := hF.neg (by omega)
            replace hP := hP.neg (by omega)
            replace hF := hF.pos (by omega)
            replace hP := hP.pos (by omega)
            refine tr_goto 42 dX12_readEvent_37 (by decide) ?_
            refine tr_istore_n dX12_readEvent_42 (by decide) (by decide) ?_
            refine tr_aload_n dX12_readEvent_43 rfl ?_
            refine q_iconst dX12_readEvent_44 (by decide) ?_
            intro v2722 h2723
            refine tr_aload_n dX12_readEvent_45 rfl ?_
            refine tr_getR dX12_readEvent_46 fl12_188 (kR15 hS2217.1 ta0) d2 ?_
            refine q_getI dX12_readEvent_49 fl12_192 (kR14 hS2217.1 ta1) ((hS2217.cell ta1 (by decide +kernel)).trans c30) ?_
            refine q_iconst dX12_readEvent_52 (by decide) ?_
            intro v2724 h2725
            refine q_isubE dX12_readEvent_53 (by intros; omega) ?_
            intro v2726 h2727
            refine q_callVi hE (M' := mX12_readWhole) (as := [_, _]) dX12_readEvent_54 lk12_161 inX12_readWhole seX12_readWhole myX12_readWhole (by decide) ⟨by decide, by decide⟩ rfl (kR15 hS2217.1 ta0) (Nat.le_of_ble_eq_true rfl) rfl rfl (by decide) (by decide) (k_X12_readWhole hS2217.1 ta0) ?_
            rintro v2732 cn' K' N' I2728 R2729 L2730 ⟨rfl, rfl, rfl, rfl, g2731, p2733, w2734, -⟩
            have hS2735 := hS2217.tr g2731 (by decide +kernel) (by decide +kernel)
            have c2736 : I2728 a1 2 = v37 := (g2731.cell ta1 (by decide +kernel)).trans c2218
            have b2737 : 0 ≤ v2732.toInt ∧ v2732.toInt ≤ 239 := by omega
            clear p2733
            have ov2738 := w2734.over (by rw [c2716]; omega)
            obtain ⟨v2739, c2740⟩ : ∃ v, I2728 a0 9 = v := ⟨_, rfl⟩
            have b2741 := iv15_9 hS2735.1 ta0 c2740
            obtain ⟨v2742, c2743⟩ : ∃ v, I2728 a0 13 = v := ⟨_, rfl⟩
            obtain ⟨v2744, c2745⟩ : ∃ v, I2728 a0 14 = v := ⟨_, rfl⟩
            (try rw [c2740] at ov2738)
            (try rw [c2743] at ov2738)
            (try rw [c2745] at ov2738)
            (try rw [c2716] at ov2738)
            (try rw [c2719] at ov2738)
            (try rw [c2721] at ov2738)
            refine tr_istore_n dX12_readEvent_57 (by decide) (by decide) ?_
            refine tr_iload_n dX12_readEvent_58 rfl ?_
            refine q_iconst dX12_readEvent_59 (by decide) ?_
            intro v2746 h2747
            refine q_icmp_ne 69 dX12_readEvent_60 (by decide) (fun h2748 => ?_) (fun h2748 => ?_)
            · skip
              refine tr_aload_n dX12_readEvent_69 rfl ?_
              refine tr_ldcwS dX12_readEvent_70 ld12_272 ?_
              refine tr_iload_n dX12_readEvent_73 rfl ?_
              refine q_iconst dX12_readEvent_74 (by decide) ?_
              intro v2749 h2750
              refine q_iaddE dX12_readEvent_75 (by intros; omega) ?_
              intro v2751 h2752
              refine tr_aload_n dX12_readEvent_76 rfl ?_
              refine tr_getR dX12_readEvent_77 fl12_188 (kR15 hS2735.1 ta0) d2 ?_
              refine q_getI dX12_readEvent_80 fl12_192 (kR14 hS2735.1 ta1) ((hS2735.cell ta1 (by decide +kernel)).trans c30) ?_
              refine q_callVi hE (M' := mX12_readPart) (as := [_, _, _]) dX12_readEvent_83 lk12_249 inX12_readPart seX12_readPart myX12_readPart (by decide) ⟨by decide, by decide⟩ rfl (kR15 hS2735.1 ta0) (Nat.le_of_ble_eq_true rfl) rfl rfl (by decide) (by decide) (k_X12_readPart hS2735.1 ta0 (by decide)) ?_
              rintro v2757 cn' K' N' I2753 R2754 L2755 ⟨rfl, rfl, rfl, rfl, g2756, p2758, w2759, -⟩
              have hS2760 := hS2735.tr g2756 (by decide +kernel) (by decide +kernel)
              have c2761 : I2753 a1 2 = v37 := (g2756.cell ta1 (by decide +kernel)).trans c2736
              have b2762 : 1 ≤ v2757.toInt ∧ v2757.toInt ≤ 240 := by omega
              clear p2758
              have ov2763 := w2759.over (by rw [c2740]; omega)
              obtain ⟨v2764, c2765⟩ : ∃ v, I2753 a0 9 = v := ⟨_, rfl⟩
              have b2766 := iv15_9 hS2760.1 ta0 c2765
              obtain ⟨v2767, c2768⟩ : ∃ v, I2753 a0 13 = v := ⟨_, rfl⟩
              obtain ⟨v2769, c2770⟩ : ∃ v, I2753 a0 14 = v := ⟨_, rfl⟩
              (try rw [c2765] at ov2763)
              (try rw [c2768] at ov2763)
              (try rw [c2770] at ov2763)
              (try rw [c2740] at ov2763)
              (try rw [c2743] at ov2763)
              (try rw [c2745] at ov2763)
              refine tr_istore dX12_readEvent_86 (by decide) (by decide) ?_
              refine tr_aload_n dX12_readEvent_88 rfl ?_
              refine q_getI dX12_readEvent_89 fl12_99 (kR15 hS2760.1 ta0) c2765 ?_
              refine q_iconst dX12_readEvent_92 (by decide) ?_
              intro v2771 h2772
              refine q_icmp_ne 97 dX12_readEvent_93 (by decide) (fun h2773 => ?_) (fun h2773 => ?_)
              · skip
                exfalso; omega
              · skip
                have eF := hF.eq
                have eP := hP.eq
                obtain ⟨v2774, c2775⟩ : ∃ v, I2753 a0 10 = v := ⟨_, rfl⟩
                have b2776 := iv15_10 hS2760.1 ta0 c2775
                obtain ⟨v2777, c2778⟩ : ∃ v, I2753 a0 11 = v := ⟨_, rfl⟩
                obtain ⟨y2779, c2780⟩ : ∃ v, L2755 a0 15 = v := ⟨_, rfl⟩
                obtain ⟨v2781, c2782⟩ : ∃ v, I2753 a0 12 = v := ⟨_, rfl⟩
                obtain ⟨v2783, c2784⟩ : ∃ v, I2753 a0 8 = v := ⟨_, rfl⟩
                have b2785 := iv15_8 hS2760.1 ta0 c2784
                exact tr_vret hZ dX12_readEvent_96 rfl (by decide) (by decide) ⟨rfl, rfl, rfl, rfl, rfl, hS2760, (Or.inr (⟨(by (try rw [w2187]); first | done | omega), (by (try rw [w2187]); (try rw [c2765]); first | done | omega), (by (try rw [w2187]); (try rw [c2768]); first | done | omega), (by (try rw [w2187]); (try rw [c2770]); first | done | omega), trivial⟩)), trivial⟩
            · skip
              exfalso; omega
    · skip
      obtain ⟨v2786, c2787⟩ : ∃ v, I2136 a0 9 = v := ⟨_, rfl⟩
      have b2788 := iv15_9 hS2144.1 ta0 c2787
      rw [c2787] at p2158
      obtain ⟨v2789, c2790⟩ : ∃ v, I2136 a0 13 = v := ⟨_, rfl⟩
      rw [c2790] at p2159
      obtain ⟨v2791, c2792⟩ : ∃ v, I2136 a0 14 = v := ⟨_, rfl⟩
      rw [c2792] at p2160
      replace hF := hF.pos (by omega)
      replace hP := hP.pos (by omega)
      refine tr_iload_n dX12_readEvent_13 rfl ?_
      refine q_iconst dX12_readEvent_14 (by decide) ?_
      intro v2793 h2794
      refine q_icmp_eq 23 dX12_readEvent_15 (by decide) (fun h2795 => ?_) (fun h2795 => ?_)
      · skip
        exfalso; omega
      · skip
        refine tr_iload_n dX12_readEvent_18 rfl ?_
        refine q_iconst dX12_readEvent_19 (by decide) ?_
        intro v2796 h2797
        refine q_icmp_ne 40 dX12_readEvent_20 (by decide) (fun h2798 => ?_) (fun h2798 => ?_)
        · skip
          exfalso; omega
        · skip
          refine tr_aload_n dX12_readEvent_23 rfl ?_
          refine q_iconst dX12_readEvent_24 (by decide) ?_
          intro v2799 h2800
          refine tr_aload_n dX12_readEvent_25 rfl ?_
          refine tr_getR dX12_readEvent_26 fl12_188 (kR15 hS2144.1 ta0) d2 ?_
          refine q_getI dX12_readEvent_29 fl12_263 (kR14 hS2144.1 ta1) ((hS2144.cell ta1 (by decide +kernel)).trans c34) ?_
          refine q_iconst dX12_readEvent_32 (by decide) ?_
          intro v2801 h2802
          refine q_isubE dX12_readEvent_33 (by intros; omega) ?_
          intro v2803 h2804
          refine q_callVi hE (M' := mX12_readWhole) (as := [_, _]) dX12_readEvent_34 lk12_161 inX12_readWhole seX12_readWhole myX12_readWhole (by decide) ⟨by decide, by decide⟩ rfl (kR15 hS2144.1 ta0) (Nat.le_of_ble_eq_true rfl) rfl rfl (by decide) (by decide) (k_X12_readWhole hS2144.1 ta0) ?_
          rintro v2809 cn' K' N' I2805 R2806 L2807 ⟨rfl, rfl, rfl, rfl, g2808, p2810, w2811, -⟩
          have hS2812 := hS2144.tr g2808 (by decide +kernel) (by decide +kernel)
          have c2813 : I2805 a1 2 = v37 := (g2808.cell ta1 (by decide +kernel)).trans c2145
          have b2814 : 0 ≤ v2809.toInt ∧ v2809.toInt ≤ 3 := by omega
          clear p2810
          have ov2815 := w2811.over (by rw [c2787]; omega)
          obtain ⟨v2816, c2817⟩ : ∃ v, I2805 a0 9 = v := ⟨_, rfl⟩
          have b2818 := iv15_9 hS2812.1 ta0 c2817
          obtain ⟨v2819, c2820⟩ : ∃ v, I2805 a0 13 = v := ⟨_, rfl⟩
          obtain ⟨v2821, c2822⟩ : ∃ v, I2805 a0 14 = v := ⟨_, rfl⟩
          (try rw [c2817] at ov2815)
          (try rw [c2820] at ov2815)
          (try rw [c2822] at ov2815)
          (try rw [c2787] at ov2815)
          (try rw [c2790] at ov2815)
          (try rw [c2792] at ov2815)
          refine tr_goto 42 dX12_readEvent_37 (by decide) ?_
          refine tr_istore_n dX12_readEvent_42 (by decide) (by decide) ?_
          refine tr_aload_n dX12_readEvent_43 rfl ?_
          refine q_iconst dX12_readEvent_44 (by decide) ?_
          intro v2823 h2824
          refine tr_aload_n dX12_readEvent_45 rfl ?_
          refine tr_getR dX12_readEvent_46 fl12_188 (kR15 hS2812.1 ta0) d2 ?_
          refine q_getI dX12_readEvent_49 fl12_192 (kR14 hS2812.1 ta1) ((hS2812.cell ta1 (by decide +kernel)).trans c30) ?_
          refine q_iconst dX12_readEvent_52 (by decide) ?_
          intro v2825 h2826
          refine q_isubE dX12_readEvent_53 (by intros; omega) ?_
          intro v2827 h2828
          refine q_callVi hE (M' := mX12_readWhole) (as := [_, _]) dX12_readEvent_54 lk12_161 inX12_readWhole seX12_readWhole myX12_readWhole (by decide) ⟨by decide, by decide⟩ rfl (kR15 hS2812.1 ta0) (Nat.le_of_ble_eq_true rfl) rfl rfl (by decide) (by decide) (k_X12_readWhole hS2812.1 ta0) ?_
          rintro v2833 cn' K' N' I2829 R2830 L2831 ⟨rfl, rfl, rfl, rfl, g2832, p2834, w2835, -⟩
          have hS2836 := hS2812.tr g2832 (by decide +kernel) (by decide +kernel)
          have c2837 : I2829 a1 2 = v37 := (g2832.cell ta1 (by decide +kernel)).trans c2813
          have b2838 : 0 ≤ v2833.toInt ∧ v2833.toInt ≤ 239 := by omega
          clear p2834
          have ov2839 := w2835.over (by rw [c2817]; omega)
          obtain ⟨v2840, c2841⟩ : ∃ v, I2829 a0 9 = v := ⟨_, rfl⟩
          have b2842 := iv15_9 hS2836.1 ta0 c2841
          obtain ⟨v2843, c2844⟩ : ∃ v, I2829 a0 13 = v := ⟨_, rfl⟩
          obtain ⟨v2845, c2846⟩ : ∃ v, I2829 a0 14 = v := ⟨_, rfl⟩
          (try rw [c2841] at ov2839)
          (try rw [c2844] at ov2839)
          (try rw [c2846] at ov2839)
          (try rw [c2817] at ov2839)
          (try rw [c2820] at ov2839)
          (try rw [c2822] at ov2839)
          refine tr_istore_n dX12_readEvent_57 (by decide) (by decide) ?_
          refine tr_iload_n dX12_readEvent_58 rfl ?_
          refine q_iconst dX12_readEvent_59 (by decide) ?_
          intro v2847 h2848
          refine q_icmp_ne 69 dX12_readEvent_60 (by decide) (fun h2849 => ?_) (fun h2849 => ?_)
          · skip
            refine tr_aload_n dX12_readEvent_69 rfl ?_
            refine tr_ldcwS dX12_readEvent_70 ld12_272 ?_
            refine tr_iload_n dX12_readEvent_73 rfl ?_
            refine q_iconst dX12_readEvent_74 (by decide) ?_
            intro v2850 h2851
            refine q_iaddE dX12_readEvent_75 (by intros; omega) ?_
            intro v2852 h2853
            refine tr_aload_n dX12_readEvent_76 rfl ?_
            refine tr_getR dX12_readEvent_77 fl12_188 (kR15 hS2836.1 ta0) d2 ?_
            refine q_getI dX12_readEvent_80 fl12_192 (kR14 hS2836.1 ta1) ((hS2836.cell ta1 (by decide +kernel)).trans c30) ?_
            refine q_callVi hE (M' := mX12_readPart) (as := [_, _, _]) dX12_readEvent_83 lk12_249 inX12_readPart seX12_readPart myX12_readPart (by decide) ⟨by decide, by decide⟩ rfl (kR15 hS2836.1 ta0) (Nat.le_of_ble_eq_true rfl) rfl rfl (by decide) (by decide) (k_X12_readPart hS2836.1 ta0 (by decide)) ?_
            rintro v2858 cn' K' N' I2854 R2855 L2856 ⟨rfl, rfl, rfl, rfl, g2857, p2859, w2860, -⟩
            have hS2861 := hS2836.tr g2857 (by decide +kernel) (by decide +kernel)
            have c2862 : I2854 a1 2 = v37 := (g2857.cell ta1 (by decide +kernel)).trans c2837
            have b2863 : 1 ≤ v2858.toInt ∧ v2858.toInt ≤ 240 := by omega
            clear p2859
            have ov2864 := w2860.over (by rw [c2841]; omega)
            obtain ⟨v2865, c2866⟩ : ∃ v, I2854 a0 9 = v := ⟨_, rfl⟩
            have b2867 := iv15_9 hS2861.1 ta0 c2866
            obtain ⟨v2868, c2869⟩ : ∃ v, I2854 a0 13 = v := ⟨_, rfl⟩
            obtain ⟨v2870, c2871⟩ : ∃ v, I2854 a0 14 = v := ⟨_, rfl⟩
            (try rw [c2866] at ov2864)
            (try rw [c2869] at ov2864)
            (try rw [c2871] at ov2864)
            (try rw [c2841] at ov2864)
            (try rw [c2844] at ov2864)
            (try rw [c2846] at ov2864)
            refine tr_istore dX12_readEvent_86 (by decide) (by decide) ?_
            refine tr_aload_n dX12_readEvent_88 rfl ?_
            refine q_getI dX12_readEvent_89 fl12_99 (kR15 hS2861.1 ta0) c2866 ?_
            refine q_iconst dX12_readEvent_92 (by decide) ?_
            intro v2872 h2873
            refine q_icmp_ne 97 dX12_readEvent_93 (by decide) (fun h2874 => ?_) (fun h2874 => ?_)
            · skip
              exfalso; omega
            · skip
              have eF := hF.eq
              have eP := hP.eq
              obtain ⟨v2875, c2876⟩ : ∃ v, I2854 a0 10 = v := ⟨_, rfl⟩
              have b2877 := iv15_10 hS2861.1 ta0 c2876
              obtain ⟨v2878, c2879⟩ : ∃ v, I2854 a0 11 = v := ⟨_, rfl⟩
              obtain ⟨y2880, c2881⟩ : ∃ v, L2856 a0 15 = v := ⟨_, rfl⟩
              obtain ⟨v2882, c2883⟩ : ∃ v, I2854 a0 12 = v := ⟨_, rfl⟩
              obtain ⟨v2884, c2885⟩ : ∃ v, I2854 a0 8 = v := ⟨_, rfl⟩
              have b2886 := iv15_8 hS2861.1 ta0 c2885
              exact tr_vret hZ dX12_readEvent_96 rfl (by decide) (by decide) ⟨rfl, rfl, rfl, rfl, rfl, hS2861, (Or.inr (⟨(by first | done | omega), (by (try rw [c2866]); first | done | omega), (by (try rw [c2869]); first | done | omega), (by (try rw [c2871]); first | done | omega), trivial⟩)), trivial⟩
          · skip
            exfalso; omega
    · skip
      obtain ⟨v2887, c2888⟩ : ∃ v, I2136 a0 9 = v := ⟨_, rfl⟩
      have b2889 := iv15_9 hS2144.1 ta0 c2888
      rw [c2888] at p2163
      obtain ⟨v2890, c2891⟩ : ∃ v, I2136 a0 13 = v := ⟨_, rfl⟩
      rw [c2891] at p2164
      obtain ⟨v2892, c2893⟩ : ∃ v, I2136 a0 14 = v := ⟨_, rfl⟩
      rw [c2893] at p2165
      replace hF := hF.neg (by omega)
      replace hP := hP.neg (by omega)
      replace hF := hF.pos (by omega)
      replace hP := hP.pos (by omega)
      refine tr_iload_n dX12_readEvent_13 rfl ?_
      refine q_iconst dX12_readEvent_14 (by decide) ?_
      intro v2894 h2895
      refine q_icmp_eq 23 dX12_readEvent_15 (by decide) (fun h2896 => ?_) (fun h2896 => ?_)
      · skip
        exfalso; omega
      · skip
        refine tr_iload_n dX12_readEvent_18 rfl ?_
        refine q_iconst dX12_readEvent_19 (by decide) ?_
        intro v2897 h2898
        refine q_icmp_ne 40 dX12_readEvent_20 (by decide) (fun h2899 => ?_) (fun h2899 => ?_)
        · skip
          exfalso; omega
        · skip
          refine tr_aload_n dX12_readEvent_23 rfl ?_
          refine q_iconst dX12_readEvent_24 (by decide) ?_
          intro v2900 h2901
          refine tr_aload_n dX12_readEvent_25 rfl ?_
          refine tr_getR dX12_readEvent_26 fl12_188 (kR15 hS2144.1 ta0) d2 ?_
          refine q_getI dX12_readEvent_29 fl12_263 (kR14 hS2144.1 ta1) ((hS2144.cell ta1 (by decide +kernel)).trans c34) ?_
          refine q_iconst dX12_readEvent_32 (by decide) ?_
          intro v2902 h2903
          refine q_isubE dX12_readEvent_33 (by intros; omega) ?_
          intro v2904 h2905
          refine q_callVi hE (M' := mX12_readWhole) (as := [_, _]) dX12_readEvent_34 lk12_161 inX12_readWhole seX12_readWhole myX12_readWhole (by decide) ⟨by decide, by decide⟩ rfl (kR15 hS2144.1 ta0) (Nat.le_of_ble_eq_true rfl) rfl rfl (by decide) (by decide) (k_X12_readWhole hS2144.1 ta0) ?_
          rintro v2910 cn' K' N' I2906 R2907 L2908 ⟨rfl, rfl, rfl, rfl, g2909, p2911, w2912, -⟩
          have hS2913 := hS2144.tr g2909 (by decide +kernel) (by decide +kernel)
          have c2914 : I2906 a1 2 = v37 := (g2909.cell ta1 (by decide +kernel)).trans c2145
          have b2915 : 0 ≤ v2910.toInt ∧ v2910.toInt ≤ 3 := by omega
          clear p2911
          have ov2916 := w2912.over (by rw [c2888]; omega)
          obtain ⟨v2917, c2918⟩ : ∃ v, I2906 a0 9 = v := ⟨_, rfl⟩
          have b2919 := iv15_9 hS2913.1 ta0 c2918
          obtain ⟨v2920, c2921⟩ : ∃ v, I2906 a0 13 = v := ⟨_, rfl⟩
          obtain ⟨v2922, c2923⟩ : ∃ v, I2906 a0 14 = v := ⟨_, rfl⟩
          (try rw [c2918] at ov2916)
          (try rw [c2921] at ov2916)
          (try rw [c2923] at ov2916)
          (try rw [c2888] at ov2916)
          (try rw [c2891] at ov2916)
          (try rw [c2893] at ov2916)
          refine tr_goto 42 dX12_readEvent_37 (by decide) ?_
          refine tr_istore_n dX12_readEvent_42 (by decide) (by decide) ?_
          refine tr_aload_n dX12_readEvent_43 rfl ?_
          refine q_iconst dX12_readEvent_44 (by decide) ?_
          intro v2924 h2925
          refine tr_aload_n dX12_readEvent_45 rfl ?_
          refine tr_getR dX12_readEvent_46 fl12_188 (kR15 hS2913.1 ta0) d2 ?_
          refine q_getI dX12_readEvent_49 fl12_192 (kR14 hS2913.1 ta1) ((hS2913.cell ta1 (by decide +kernel)).trans c30) ?_
          refine q_iconst dX12_readEvent_52 (by decide) ?_
          intro v2926 h2927
          refine q_isubE dX12_readEvent_53 (by intros; omega) ?_
          intro v2928 h2929
          refine q_callVi hE (M' := mX12_readWhole) (as := [_, _]) dX12_readEvent_54 lk12_161 inX12_readWhole seX12_readWhole myX12_readWhole (by decide) ⟨by decide, by decide⟩ rfl (kR15 hS2913.1 ta0) (Nat.le_of_ble_eq_true rfl) rfl rfl (by decide) (by decide) (k_X12_readWhole hS2913.1 ta0) ?_
          rintro v2934 cn' K' N' I2930 R2931 L2932 ⟨rfl, rfl, rfl, rfl, g2933, p2935, w2936, -⟩
          have hS2937 := hS2913.tr g2933 (by decide +kernel) (by decide +kernel)
          have c2938 : I2930 a1 2 = v37 := (g2933.cell ta1 (by decide +kernel)).trans c2914
          have b2939 : 0 ≤ v2934.toInt ∧ v2934.toInt ≤ 0 := by omega
          clear p2935
          have ov2940 := w2936.over (by rw [c2918]; omega)
          obtain ⟨v2941, c2942⟩ : ∃ v, I2930 a0 9 = v := ⟨_, rfl⟩
          have b2943 := iv15_9 hS2937.1 ta0 c2942
          obtain ⟨v2944, c2945⟩ : ∃ v, I2930 a0 13 = v := ⟨_, rfl⟩
          obtain ⟨v2946, c2947⟩ : ∃ v, I2930 a0 14 = v := ⟨_, rfl⟩
          (try rw [c2942] at ov2940)
          (try rw [c2945] at ov2940)
          (try rw [c2947] at ov2940)
          (try rw [c2918] at ov2940)
          (try rw [c2921] at ov2940)
          (try rw [c2923] at ov2940)
          refine tr_istore_n dX12_readEvent_57 (by decide) (by decide) ?_
          refine tr_iload_n dX12_readEvent_58 rfl ?_
          refine q_iconst dX12_readEvent_59 (by decide) ?_
          intro v2948 h2949
          refine q_icmp_ne 69 dX12_readEvent_60 (by decide) (fun h2950 => ?_) (fun h2950 => ?_)
          · skip
            refine tr_aload_n dX12_readEvent_69 rfl ?_
            refine tr_ldcwS dX12_readEvent_70 ld12_272 ?_
            refine tr_iload_n dX12_readEvent_73 rfl ?_
            refine q_iconst dX12_readEvent_74 (by decide) ?_
            intro v2951 h2952
            refine q_iaddE dX12_readEvent_75 (by intros; omega) ?_
            intro v2953 h2954
            refine tr_aload_n dX12_readEvent_76 rfl ?_
            refine tr_getR dX12_readEvent_77 fl12_188 (kR15 hS2937.1 ta0) d2 ?_
            refine q_getI dX12_readEvent_80 fl12_192 (kR14 hS2937.1 ta1) ((hS2937.cell ta1 (by decide +kernel)).trans c30) ?_
            refine q_callVi hE (M' := mX12_readPart) (as := [_, _, _]) dX12_readEvent_83 lk12_249 inX12_readPart seX12_readPart myX12_readPart (by decide) ⟨by decide, by decide⟩ rfl (kR15 hS2937.1 ta0) (Nat.le_of_ble_eq_true rfl) rfl rfl (by decide) (by decide) (k_X12_readPart hS2937.1 ta0 (by decide)) ?_
            rintro v2959 cn' K' N' I2955 R2956 L2957 ⟨rfl, rfl, rfl, rfl, g2958, p2960, w2961, -⟩
            have hS2962 := hS2937.tr g2958 (by decide +kernel) (by decide +kernel)
            have c2963 : I2955 a1 2 = v37 := (g2958.cell ta1 (by decide +kernel)).trans c2938
            have b2964 : 1 ≤ v2959.toInt ∧ v2959.toInt ≤ 1 := by omega
            clear p2960
            have ov2965 := w2961.over (by rw [c2942]; omega)
            obtain ⟨v2966, c2967⟩ : ∃ v, I2955 a0 9 = v := ⟨_, rfl⟩
            have b2968 := iv15_9 hS2962.1 ta0 c2967
            obtain ⟨v2969, c2970⟩ : ∃ v, I2955 a0 13 = v := ⟨_, rfl⟩
            obtain ⟨v2971, c2972⟩ : ∃ v, I2955 a0 14 = v := ⟨_, rfl⟩
            (try rw [c2967] at ov2965)
            (try rw [c2970] at ov2965)
            (try rw [c2972] at ov2965)
            (try rw [c2942] at ov2965)
            (try rw [c2945] at ov2965)
            (try rw [c2947] at ov2965)
            refine tr_istore dX12_readEvent_86 (by decide) (by decide) ?_
            refine tr_aload_n dX12_readEvent_88 rfl ?_
            refine q_getI dX12_readEvent_89 fl12_99 (kR15 hS2962.1 ta0) c2967 ?_
            refine q_iconst dX12_readEvent_92 (by decide) ?_
            intro v2973 h2974
            refine q_icmp_ne 97 dX12_readEvent_93 (by decide) (fun h2975 => ?_) (fun h2975 => ?_)
            · skip
              exfalso; omega
            · skip
              have eF := hF.eq
              have eP := hP.eq
              obtain ⟨v2976, c2977⟩ : ∃ v, I2955 a0 10 = v := ⟨_, rfl⟩
              have b2978 := iv15_10 hS2962.1 ta0 c2977
              obtain ⟨v2979, c2980⟩ : ∃ v, I2955 a0 11 = v := ⟨_, rfl⟩
              obtain ⟨y2981, c2982⟩ : ∃ v, L2957 a0 15 = v := ⟨_, rfl⟩
              obtain ⟨v2983, c2984⟩ : ∃ v, I2955 a0 12 = v := ⟨_, rfl⟩
              obtain ⟨v2985, c2986⟩ : ∃ v, I2955 a0 8 = v := ⟨_, rfl⟩
              have b2987 := iv15_8 hS2962.1 ta0 c2986
              exact tr_vret hZ dX12_readEvent_96 rfl (by decide) (by decide) ⟨rfl, rfl, rfl, rfl, rfl, hS2962, (Or.inr (⟨(by first | done | omega), (by (try rw [c2967]); first | done | omega), (by (try rw [c2970]); first | done | omega), (by (try rw [c2972]); first | done | omega), trivial⟩)), trivial⟩
          · skip
            exfalso; omega
  · skip
    refine tr_aload_n dX12_readEvent_0 rfl ?_
    refine tr_aload_n dX12_readEvent_1 rfl ?_
    refine tr_getR dX12_readEvent_2 fl12_188 (kR15 hS0.1 ta0) d2 ?_
    refine q_getI dX12_readEvent_5 fl12_265 (kR14 hS0.1 ta1) c38 ?_
    refine q_bipush dX12_readEvent_8 (by decide +kernel) ?_
    intro v2988 h2989
    refine q_callVv hE (M' := mX12_begins) (as := [_, _]) dX12_readEvent_10 lk12_268 inX12_begins seX12_begins myX12_begins (by decide) ⟨by decide, by decide⟩ rfl (kR15 hS0.1 ta0) (Nat.le_of_ble_eq_true rfl) rfl rfl (by decide) (by decide) (fk_X12_begins hS0.1 (gB) (gs) (gQ) ta0 (TxA.kp hT hS0 ta0 rfl rfl rfl (by decide +kernel) (by decide +kernel)) (by (try rw [c4]); first | done | omega) (by (try rw [c4]); first | done | omega) (by (try rw [c9]); first | done | omega) (by (try rw [c13]); first | done | omega) (by (try rw [c16]); first | done | assumption) (by (try rw [c19]); first | done | assumption) (by (try rw [c22]); first | done | assumption) (by (try rw [c26]); first | done | omega) (fun q0 z0 => by obtain rfl := Option.some.inj ((d2).symm.trans z0); (try rw [c30]); first | done | omega) (by first | done | omega) ⟨_, d2⟩) ?_
    rintro cn' K' N' I2990 R2991 L2992 ⟨rfl, rfl, rfl, rfl, g2993, dj2996, -⟩
    have hM2997 : NmM I2990 R0 L0 a1 gQ := NmM.kpS hM0 g2993 hS0.1 ta1 (by decide +kernel) (by decide +kernel)
    have hS2998 := hS0.tr g2993 (by decide +kernel) (by decide +kernel)
    have c2999 : I2990 a1 2 = v37 := (g2993.cell ta1 (by decide +kernel)).trans c38
    rcases dj2996 with ⟨p3000, p3001, p3002, p3003, p3004, p3005, p3006, p3007, p3008, p3009, gl3010, -⟩ | ⟨p3011, p3012, p3013, p3014, -⟩ | ⟨p3015, p3016, p3017, p3018, p3019, -⟩
    · skip
      have hL3020 := hL0.tr gl3010 (by decide +kernel)
      have hM3021 : NmM I2990 R0 L2992 a1 gQ := NmM.kpL hM2997 gl3010 hS2998.1 ta1 (by decide +kernel)
      obtain ⟨v3022, c3023⟩ : ∃ v, I2990 a0 13 = v := ⟨_, rfl⟩
      rw [c3023] at p3002
      rw [c65] at p3002
      obtain ⟨v3024, c3025⟩ : ∃ v, I2990 a0 9 = v := ⟨_, rfl⟩
      have b3026 := iv15_9 hS2998.1 ta0 c3025
      rw [c3025] at p3003
      rw [c3025] at p3004
      obtain ⟨v3027, c3028⟩ : ∃ v, I2990 a0 10 = v := ⟨_, rfl⟩
      have b3029 := iv15_10 hS2998.1 ta0 c3028
      rw [c3028] at p3005
      obtain ⟨v3030, c3031⟩ : ∃ v, I2990 a0 11 = v := ⟨_, rfl⟩
      rw [c3031] at p3006
      obtain ⟨y3032, c3033⟩ : ∃ v, L2992 a0 15 = v := ⟨_, rfl⟩
      rw [c3033] at p3007
      obtain ⟨v3034, c3035⟩ : ∃ v, I2990 a0 12 = v := ⟨_, rfl⟩
      rw [c3035] at p3008
      obtain ⟨v3036, c3037⟩ : ∃ v, I2990 a0 8 = v := ⟨_, rfl⟩
      have b3038 := iv15_8 hS2998.1 ta0 c3037
      rw [c3037] at p3009
      replace hF := hF.neg (by omega)
      replace hP := hP.neg (by omega)
      replace hF := hF.neg (by omega)
      replace hP := hP.neg (by omega)
      obtain ⟨w3039, w3040, w3041, w3042, w3043, w3044, w3045, w3046, w3047, w3048, w3049, w3050⟩ := lnl_e (B := gB) (Q := gQ) (s := gs) (by omega) (by omega)
      replace hF := hF.to w3039 (evF_c4 (B := gB) (Q := gQ) (k := srt gB gs) (s := (tkN gB gs)) (by omega))
      replace hP := hP.to w3040 (evP_c4 (B := gB) (Q := gQ) (k := srt gB gs) (s := (tkN gB gs)) (by omega))
      refine tr_iload_n dX12_readEvent_13 rfl ?_
      refine q_iconst dX12_readEvent_14 (by decide) ?_
      intro v3051 h3052
      refine q_icmp_eq 23 dX12_readEvent_15 (by decide) (fun h3053 => ?_) (fun h3053 => ?_)
      · skip
        exfalso; omega
      · skip
        refine tr_iload_n dX12_readEvent_18 rfl ?_
        refine q_iconst dX12_readEvent_19 (by decide) ?_
        intro v3054 h3055
        refine q_icmp_ne 40 dX12_readEvent_20 (by decide) (fun h3056 => ?_) (fun h3056 => ?_)
        · skip
          refine q_bipush dX12_readEvent_40 (by decide +kernel) ?_
          intro v3057 h3058
          refine tr_istore_n dX12_readEvent_42 (by decide) (by decide) ?_
          refine tr_aload_n dX12_readEvent_43 rfl ?_
          refine q_iconst dX12_readEvent_44 (by decide) ?_
          intro v3059 h3060
          refine tr_aload_n dX12_readEvent_45 rfl ?_
          refine tr_getR dX12_readEvent_46 fl12_188 (kR15 hS2998.1 ta0) d2 ?_
          refine q_getI dX12_readEvent_49 fl12_192 (kR14 hS2998.1 ta1) ((hS2998.cell ta1 (by decide +kernel)).trans c30) ?_
          refine q_iconst dX12_readEvent_52 (by decide) ?_
          intro v3061 h3062
          refine q_isubE dX12_readEvent_53 (by intros; omega) ?_
          intro v3063 h3064
          refine q_callVi hE (M' := mX12_readWhole) (as := [_, _]) dX12_readEvent_54 lk12_161 inX12_readWhole seX12_readWhole myX12_readWhole (by decide) ⟨by decide, by decide⟩ rfl (kR15 hS2998.1 ta0) (Nat.le_of_ble_eq_true rfl) rfl rfl (by decide) (by decide) (fk_X12_readWhole hS2998.1 (gB) ((tkN gB gs)) ta0 (TxA.kp hT hS2998 ta0 rfl rfl rfl (by decide +kernel) (by decide +kernel)) (by (try rw [c3025]); first | done | omega) (by (try rw [c3025]); first | done | omega) (by (try rw [c3028]); first | done | omega) (by (try rw [c3031]); first | done | omega) (by (try rw [c3033]); first | done | assumption) (by (try rw [c3035]); first | done | assumption) (by (try rw [c3037]); first | done | assumption) (by (try rw [((hS2998.cell ta0 (by decide +kernel)).trans c26)]); first | done | omega)) ?_
          rintro v3070 cn' K' N' I3065 R3066 L3067 ⟨rfl, rfl, rfl, rfl, g3068, dj3071, -⟩
          have hM3072 : NmM I3065 R0 L2992 a1 gQ := NmM.kpS hM3021 g3068 hS2998.1 ta1 (by decide +kernel) (by decide +kernel)
          have hS3073 := hS2998.tr g3068 (by decide +kernel) (by decide +kernel)
          have c3074 : I3065 a1 2 = v37 := (g3068.cell ta1 (by decide +kernel)).trans c2999
          rcases dj3071 with ⟨p3075, p3076, p3077, p3078, p3079, p3080, p3081, p3082, p3083, p3084, p3085, p3086, gl3087, -⟩ | ⟨p3088, p3089, p3090, p3091, p3092, -⟩ | ⟨p3093, p3094, p3095, p3096, p3097, p3098, -⟩
          · skip
            have hL3099 := hL3020.tr gl3087 (by decide +kernel)
            have hM3100 : NmM I3065 R0 L3067 a1 gQ := NmM.kpL hM3072 gl3087 hS3073.1 ta1 (by decide +kernel)
            obtain ⟨v3101, c3102⟩ : ∃ v, I3065 a0 13 = v := ⟨_, rfl⟩
            rw [c3102] at p3079
            rw [c3023] at p3079
            obtain ⟨v3103, c3104⟩ : ∃ v, I3065 a0 9 = v := ⟨_, rfl⟩
            have b3105 := iv15_9 hS3073.1 ta0 c3104
            rw [c3104] at p3080
            rw [c3104] at p3081
            obtain ⟨v3106, c3107⟩ : ∃ v, I3065 a0 10 = v := ⟨_, rfl⟩
            have b3108 := iv15_10 hS3073.1 ta0 c3107
            rw [c3107] at p3082
            obtain ⟨v3109, c3110⟩ : ∃ v, I3065 a0 11 = v := ⟨_, rfl⟩
            rw [c3110] at p3083
            obtain ⟨y3111, c3112⟩ : ∃ v, L3067 a0 15 = v := ⟨_, rfl⟩
            rw [c3112] at p3084
            obtain ⟨v3113, c3114⟩ : ∃ v, I3065 a0 12 = v := ⟨_, rfl⟩
            rw [c3114] at p3085
            obtain ⟨v3115, c3116⟩ : ∃ v, I3065 a0 8 = v := ⟨_, rfl⟩
            have b3117 := iv15_8 hS3073.1 ta0 c3116
            rw [c3116] at p3086
            replace hF := hF.neg (by omega)
            replace hP := hP.neg (by omega)
            replace hF := hF.neg (by omega)
            replace hP := hP.neg (by omega)
            refine tr_istore_n dX12_readEvent_57 (by decide) (by decide) ?_
            refine tr_iload_n dX12_readEvent_58 rfl ?_
            refine q_iconst dX12_readEvent_59 (by decide) ?_
            intro v3118 h3119
            refine q_icmp_ne 69 dX12_readEvent_60 (by decide) (fun h3120 => ?_) (fun h3120 => ?_)
            · skip
              exfalso; omega
            · skip
              refine tr_iload_n dX12_readEvent_63 rfl ?_
              refine q_iconst dX12_readEvent_64 (by decide) ?_
              intro v3121 h3122
              refine q_iaddE dX12_readEvent_65 (by intros; omega) ?_
              intro v3123 h3124
              refine tr_goto 86 dX12_readEvent_66 (by decide) ?_
              refine tr_istore dX12_readEvent_86 (by decide) (by decide) ?_
              refine tr_aload_n dX12_readEvent_88 rfl ?_
              refine q_getI dX12_readEvent_89 fl12_99 (kR15 hS3073.1 ta0) c3104 ?_
              refine q_iconst dX12_readEvent_92 (by decide) ?_
              intro v3125 h3126
              refine q_icmp_ne 97 dX12_readEvent_93 (by decide) (fun h3127 => ?_) (fun h3127 => ?_)
              · skip
                refine tr_aload_n dX12_readEvent_97 rfl ?_
                refine tr_getR dX12_readEvent_98 fl12_188 (kR15 hS3073.1 ta0) d2 ?_
                refine q_getI dX12_readEvent_101 fl12_265 (kR14 hS3073.1 ta1) c3074 ?_
                refine tr_istore dX12_readEvent_104 (by decide) (by decide) ?_
                refine tr_aload_n dX12_readEvent_106 rfl ?_
                refine tr_getR dX12_readEvent_107 fl12_188 (kR15 hS3073.1 ta0) d2 ?_
                obtain ⟨a3128, d3129, ta3128⟩ := rf14_11 hW0 ta1
                refine tr_getR dX12_readEvent_110 fl12_274 (kR14 hS3073.1 ta1) d3129 ?_
                refine tr_iload dX12_readEvent_113 rfl ?_
                refine tr_iload_n dX12_readEvent_115 rfl ?_
                refine q_iastX dX12_readEvent_116 (kR54 hS3073.1 ta3128) (ti_in (nR54 hS3073.1 ta3128) (by omega) (by omega)) hS3073 ta3128 (by rfl) (hS3073.1.putK (m := a1) ta1 d3129 (by rw [c3074]; exact Int.le_of_eq (ti_nat (by omega)).symm)) ?_
                intro I3134 hS3135 e3136 f3137
                have c3138 : I3134 a1 2 = v37 := (f3137 _ _ (fun q => by have z := ta1; rw [q.1, ta3128] at z; exact absurd z (by decide))).trans c3074
                have c3139 : I3134 a0 13 = v3101 := (f3137 _ _ (fun q => by have z := ta0; rw [q.1, ta3128] at z; exact absurd z (by decide))).trans c3102
                have c3140 : I3134 a0 9 = v3103 := (f3137 _ _ (fun q => by have z := ta0; rw [q.1, ta3128] at z; exact absurd z (by decide))).trans c3104
                have c3141 : I3134 a0 10 = v3106 := (f3137 _ _ (fun q => by have z := ta0; rw [q.1, ta3128] at z; exact absurd z (by decide))).trans c3107
                have c3142 : I3134 a0 11 = v3109 := (f3137 _ _ (fun q => by have z := ta0; rw [q.1, ta3128] at z; exact absurd z (by decide))).trans c3110
                have c3143 : I3134 a0 12 = v3113 := (f3137 _ _ (fun q => by have z := ta0; rw [q.1, ta3128] at z; exact absurd z (by decide))).trans c3114
                have c3144 : I3134 a0 8 = v3115 := (f3137 _ _ (fun q => by have z := ta0; rw [q.1, ta3128] at z; exact absurd z (by decide))).trans c3116
                have hM3145 : NmM I3134 R0 L3067 a1 gQ := NmM.kp1 hM3100 f3137 ta3128 rfl rfl hS3073.1 ta1
                refine tr_aload_n dX12_readEvent_117 rfl ?_
                refine tr_getR dX12_readEvent_118 fl12_188 (kR15 hS3135.1 ta0) d2 ?_
                obtain ⟨a3146, d3147, ta3146⟩ := rf14_12 hW0 ta1
                refine tr_getR dX12_readEvent_121 fl12_277 (kR14 hS3135.1 ta1) d3147 ?_
                refine tr_iload dX12_readEvent_124 rfl ?_
                refine tr_iload_n dX12_readEvent_126 rfl ?_
                refine q_iastX dX12_readEvent_127 (kR55 hS3135.1 ta3146) (ti_in (nR55 hS3135.1 ta3146) (by omega) (by omega)) hS3135 ta3146 (by rfl) (hS3135.1.putH (m := a1) ta1 d3147 (by rw [c3138]; exact Int.le_of_eq (ti_nat (by omega)).symm) (by omega)) ?_
                intro I3152 hS3153 e3154 f3155
                have c3156 : I3152 a1 2 = v37 := (f3155 _ _ (fun q => by have z := ta1; rw [q.1, ta3146] at z; exact absurd z (by decide))).trans c3138
                have c3157 : I3152 a0 13 = v3101 := (f3155 _ _ (fun q => by have z := ta0; rw [q.1, ta3146] at z; exact absurd z (by decide))).trans c3139
                have c3158 : I3152 a0 9 = v3103 := (f3155 _ _ (fun q => by have z := ta0; rw [q.1, ta3146] at z; exact absurd z (by decide))).trans c3140
                have c3159 : I3152 a0 10 = v3106 := (f3155 _ _ (fun q => by have z := ta0; rw [q.1, ta3146] at z; exact absurd z (by decide))).trans c3141
                have c3160 : I3152 a0 11 = v3109 := (f3155 _ _ (fun q => by have z := ta0; rw [q.1, ta3146] at z; exact absurd z (by decide))).trans c3142
                have c3161 : I3152 a0 12 = v3113 := (f3155 _ _ (fun q => by have z := ta0; rw [q.1, ta3146] at z; exact absurd z (by decide))).trans c3143
                have c3162 : I3152 a0 8 = v3115 := (f3155 _ _ (fun q => by have z := ta0; rw [q.1, ta3146] at z; exact absurd z (by decide))).trans c3144
                have c3163 : I3152 a3128 v37.toNatClampNeg = x1 := (f3155 _ _ (fun q => by have z := ta3128; rw [q.1, ta3146] at z; exact absurd z (by decide))).trans e3136
                have hM3164 : NmM I3152 R0 L3067 a1 gQ := NmM.kp1 hM3145 f3155 ta3146 rfl rfl hS3135.1 ta1
                refine tr_aload_n dX12_readEvent_128 rfl ?_
                refine tr_getR dX12_readEvent_129 fl12_188 (kR15 hS3153.1 ta0) d2 ?_
                obtain ⟨a3165, d3166, ta3165⟩ := rf14_13 hW0 ta1
                refine tr_getR dX12_readEvent_132 fl12_280 (kR14 hS3153.1 ta1) d3166 ?_
                refine tr_iload dX12_readEvent_135 rfl ?_
                refine tr_iload_n dX12_readEvent_137 rfl ?_
                refine q_iast dX12_readEvent_138 (kR56 hS3153.1 ta3165) (ti_in (nR56 hS3153.1 ta3165) (by omega) (by omega)) hS3153 ta3165 (by show (0 : Int) ≤ v3070.toInt ∧ v3070.toInt ≤ (240 : Int); omega) rfl (by rfl) ?_
                intro I3167 hS3168 e3170 f3169
                have c3171 : I3167 a1 2 = v37 := (f3169 _ _ (fun q => by have z := ta1; rw [q.1, ta3165] at z; exact absurd z (by decide))).trans c3156
                have c3172 : I3167 a0 13 = v3101 := (f3169 _ _ (fun q => by have z := ta0; rw [q.1, ta3165] at z; exact absurd z (by decide))).trans c3157
                have c3173 : I3167 a0 9 = v3103 := (f3169 _ _ (fun q => by have z := ta0; rw [q.1, ta3165] at z; exact absurd z (by decide))).trans c3158
                have c3174 : I3167 a0 10 = v3106 := (f3169 _ _ (fun q => by have z := ta0; rw [q.1, ta3165] at z; exact absurd z (by decide))).trans c3159
                have c3175 : I3167 a0 11 = v3109 := (f3169 _ _ (fun q => by have z := ta0; rw [q.1, ta3165] at z; exact absurd z (by decide))).trans c3160
                have c3176 : I3167 a0 12 = v3113 := (f3169 _ _ (fun q => by have z := ta0; rw [q.1, ta3165] at z; exact absurd z (by decide))).trans c3161
                have c3177 : I3167 a0 8 = v3115 := (f3169 _ _ (fun q => by have z := ta0; rw [q.1, ta3165] at z; exact absurd z (by decide))).trans c3162
                have c3178 : I3167 a3128 v37.toNatClampNeg = x1 := (f3169 _ _ (fun q => by have z := ta3128; rw [q.1, ta3165] at z; exact absurd z (by decide))).trans c3163
                have c3179 : I3167 a3146 v37.toNatClampNeg = v3057 := (f3169 _ _ (fun q => by have z := ta3146; rw [q.1, ta3165] at z; exact absurd z (by decide))).trans e3154
                have hM3180 : NmM I3167 R0 L3067 a1 gQ := NmM.kp1 hM3164 f3169 ta3165 rfl rfl hS3153.1 ta1
                refine tr_aload_n dX12_readEvent_139 rfl ?_
                refine tr_getR dX12_readEvent_140 fl12_188 (kR15 hS3168.1 ta0) d2 ?_
                obtain ⟨a3181, d3182, ta3181⟩ := rf14_14 hW0 ta1
                refine tr_getR dX12_readEvent_143 fl12_283 (kR14 hS3168.1 ta1) d3182 ?_
                refine tr_iload dX12_readEvent_146 rfl ?_
                refine tr_iload dX12_readEvent_148 rfl ?_
                refine q_iast dX12_readEvent_150 (kR57 hS3168.1 ta3181) (ti_in (nR57 hS3168.1 ta3181) (by omega) (by omega)) hS3168 ta3181 (by show (0 : Int) ≤ v3123.toInt ∧ v3123.toInt ≤ (240 : Int); omega) rfl (by rfl) ?_
                intro I3183 hS3184 e3186 f3185
                have c3187 : I3183 a1 2 = v37 := (f3185 _ _ (fun q => by have z := ta1; rw [q.1, ta3181] at z; exact absurd z (by decide))).trans c3171
                have c3188 : I3183 a0 13 = v3101 := (f3185 _ _ (fun q => by have z := ta0; rw [q.1, ta3181] at z; exact absurd z (by decide))).trans c3172
                have c3189 : I3183 a0 9 = v3103 := (f3185 _ _ (fun q => by have z := ta0; rw [q.1, ta3181] at z; exact absurd z (by decide))).trans c3173
                have c3190 : I3183 a0 10 = v3106 := (f3185 _ _ (fun q => by have z := ta0; rw [q.1, ta3181] at z; exact absurd z (by decide))).trans c3174
                have c3191 : I3183 a0 11 = v3109 := (f3185 _ _ (fun q => by have z := ta0; rw [q.1, ta3181] at z; exact absurd z (by decide))).trans c3175
                have c3192 : I3183 a0 12 = v3113 := (f3185 _ _ (fun q => by have z := ta0; rw [q.1, ta3181] at z; exact absurd z (by decide))).trans c3176
                have c3193 : I3183 a0 8 = v3115 := (f3185 _ _ (fun q => by have z := ta0; rw [q.1, ta3181] at z; exact absurd z (by decide))).trans c3177
                have c3194 : I3183 a3128 v37.toNatClampNeg = x1 := (f3185 _ _ (fun q => by have z := ta3128; rw [q.1, ta3181] at z; exact absurd z (by decide))).trans c3178
                have c3195 : I3183 a3146 v37.toNatClampNeg = v3057 := (f3185 _ _ (fun q => by have z := ta3146; rw [q.1, ta3181] at z; exact absurd z (by decide))).trans c3179
                have hM3196 : NmM I3183 R0 L3067 a1 gQ := NmM.kp1 hM3180 f3185 ta3181 rfl rfl hS3168.1 ta1
                refine tr_aload_n dX12_readEvent_151 rfl ?_
                refine tr_getR dX12_readEvent_152 fl12_188 (kR15 hS3184.1 ta0) d2 ?_
                refine tr_dup dX12_readEvent_155 rfl ?_
                refine q_getI dX12_readEvent_156 fl12_265 (kR14 hS3184.1 ta1) c3187 ?_
                refine q_iconst dX12_readEvent_159 (by decide) ?_
                intro v3197 h3198
                refine q_iaddE dX12_readEvent_160 (by intros; omega) ?_
                intro v3199 h3200
                refine q_putX dX12_readEvent_161 fl12_265 (kR14 hS3184.1 ta1) (Or.inl rfl) hS3184 ta1 (by decide +kernel) (hS3184.1.putE (i := v37.toNatClampNeg) ta1 d3129 d3147 (by rw [c3187]; exact (ti_nat (by omega)).symm) (by rw [c3187]; omega) (by omega) (by rw [c3194, c3195]; omega)) ?_
                intro I3201 hS3202 e3203 f3204
                have c3205 : I3201 a0 13 = v3101 := (f3204 _ _ (fun q => absurd q.2 (by decide))).trans c3188
                have c3206 : I3201 a0 9 = v3103 := (f3204 _ _ (fun q => absurd q.2 (by decide))).trans c3189
                have c3207 : I3201 a0 10 = v3106 := (f3204 _ _ (fun q => absurd q.2 (by decide))).trans c3190
                have c3208 : I3201 a0 11 = v3109 := (f3204 _ _ (fun q => absurd q.2 (by decide))).trans c3191
                have c3209 : I3201 a0 12 = v3113 := (f3204 _ _ (fun q => absurd q.2 (by decide))).trans c3192
                have c3210 : I3201 a0 8 = v3115 := (f3204 _ _ (fun q => absurd q.2 (by decide))).trans c3193
                have c3211 : I3201 a3128 v37.toNatClampNeg = x1 := (f3204 _ _ (fun q => by have z := ta3128; rw [q.1, ta1] at z; exact absurd z (by decide))).trans c3194
                have c3212 : I3201 a3146 v37.toNatClampNeg = v3057 := (f3204 _ _ (fun q => by have z := ta3146; rw [q.1, ta1] at z; exact absurd z (by decide))).trans c3195
                have hM3213 : NmM I3201 R0 L3067 a1 gQ := NmM.kp1 hM3196 f3204 ta1 rfl rfl hS3184.1 ta1
                have eF := hF.eq
                have eP := hP.eq
                have es3214 := evS_c4 (B := gB) (Q := gQ) (k := srt gB gs) (s := (tkN gB gs)) (by omega)
                obtain ⟨v3215, c3216⟩ : ∃ v, I3201 a0 14 = v := ⟨_, rfl⟩
                exact tr_vret hZ dX12_readEvent_164 rfl (by decide) (by decide) ⟨rfl, rfl, rfl, rfl, rfl, hS3202, (Or.inl ⟨(by (try rw [w3041]); (try rw [es3214]); first | done | omega), (fun q0 z0 => by obtain rfl := Option.some.inj ((d2).symm.trans z0); (try rw [w3041]); (try rw [es3214]); (try rw [((hS3202.cell ta1 (by decide +kernel)).trans c30)]); first | done | omega), (fun q0 z0 => by obtain rfl := Option.some.inj ((d2).symm.trans z0); (try rw [w3041]); (try rw [es3214]); (try rw [((hS3202.cell ta1 (by decide +kernel)).trans c34)]); first | done | omega), (fun q0 z0 => by obtain rfl := Option.some.inj ((d2).symm.trans z0); (try rw [w3041]); (try rw [es3214]); (try rw [e3203]); first | done | omega), (fun q0 z0 => by obtain rfl := Option.some.inj ((d2).symm.trans z0); (try rw [w3041]); (try rw [es3214]); (try rw [((hS3202.cell ta1 (by decide +kernel)).trans c42)]); first | done | omega), (fun q0 z0 => by obtain rfl := Option.some.inj ((d2).symm.trans z0); (try rw [w3041]); (try rw [es3214]); (try rw [((hS3202.cell ta1 (by decide +kernel)).trans c46)]); first | done | omega), (fun q0 z0 => by obtain rfl := Option.some.inj ((d2).symm.trans z0); (try rw [w3041]); (try rw [es3214]); (try rw [((hS3202.cell ta1 (by decide +kernel)).trans c50)]); first | done | omega), (fun q0 z0 => by obtain rfl := Option.some.inj ((d2).symm.trans z0); (try rw [w3041]); (try rw [es3214]); (try rw [((hS3202.cell ta1 (by decide +kernel)).trans c54)]); first | done | omega), (fun q0 z0 => by obtain rfl := Option.some.inj ((d2).symm.trans z0); (try rw [w3041]); (try rw [es3214]); (try rw [((hS3202.cell ta1 (by decide +kernel)).trans c58)]); first | done | omega), (by (try rw [w3041]); (try rw [es3214]); (try rw [c3205]); (try rw [c65]); first | done | omega), (by (try rw [w3041]); (try rw [es3214]); (try rw [c3206]); first | done | omega), (by (try rw [w3041]); (try rw [es3214]); (try rw [c3206]); first | done | omega), (by (try rw [w3041]); (try rw [es3214]); (try rw [c3207]); first | done | omega), (by (try rw [w3041]); (try rw [es3214]); (try rw [c3208]); first | done | omega), (by (try rw [w3041]); (try rw [es3214]); (try rw [c3112]); first | done | assumption), (by (try rw [w3041]); (try rw [es3214]); (try rw [c3209]); first | done | assumption), (by (try rw [w3041]); (try rw [es3214]); (try rw [c3210]); first | done | assumption), hL3099, (fun b hb => (Option.some.inj (d2.symm.trans hb)) ▸ NmM.ln (NmM.bd (k := srt gB gs) hM3213 (by omega) (by omega)) rfl), trivial⟩), trivial⟩
              · skip
                exfalso; omega
          · skip
            obtain ⟨v3217, c3218⟩ : ∃ v, I3065 a0 9 = v := ⟨_, rfl⟩
            have b3219 := iv15_9 hS3073.1 ta0 c3218
            rw [c3218] at p3090
            obtain ⟨v3220, c3221⟩ : ∃ v, I3065 a0 13 = v := ⟨_, rfl⟩
            rw [c3221] at p3091
            obtain ⟨v3222, c3223⟩ : ∃ v, I3065 a0 14 = v := ⟨_, rfl⟩
            rw [c3223] at p3092
            replace hF := hF.pos (by omega)
            replace hP := hP.pos (by omega)
            refine tr_istore_n dX12_readEvent_57 (by decide) (by decide) ?_
            refine tr_iload_n dX12_readEvent_58 rfl ?_
            refine q_iconst dX12_readEvent_59 (by decide) ?_
            intro v3224 h3225
            refine q_icmp_ne 69 dX12_readEvent_60 (by decide) (fun h3226 => ?_) (fun h3226 => ?_)
            · skip
              exfalso; omega
            · skip
              refine tr_iload_n dX12_readEvent_63 rfl ?_
              refine q_iconst dX12_readEvent_64 (by decide) ?_
              intro v3227 h3228
              refine q_iaddE dX12_readEvent_65 (by intros; omega) ?_
              intro v3229 h3230
              refine tr_goto 86 dX12_readEvent_66 (by decide) ?_
              refine tr_istore dX12_readEvent_86 (by decide) (by decide) ?_
              refine tr_aload_n dX12_readEvent_88 rfl ?_
              refine q_getI dX12_readEvent_89 fl12_99 (kR15 hS3073.1 ta0) c3218 ?_
              refine q_iconst dX12_readEvent_92 (by decide) ?_
              intro v3231 h3232
              refine q_icmp_ne 97 dX12_readEvent_93 (by decide) (fun h3233 => ?_) (fun h3233 => ?_)
              · skip
                exfalso; omega
              · skip
                have eF := hF.eq
                have eP := hP.eq
                obtain ⟨v3234, c3235⟩ : ∃ v, I3065 a0 10 = v := ⟨_, rfl⟩
                have b3236 := iv15_10 hS3073.1 ta0 c3235
                obtain ⟨v3237, c3238⟩ : ∃ v, I3065 a0 11 = v := ⟨_, rfl⟩
                obtain ⟨y3239, c3240⟩ : ∃ v, L3067 a0 15 = v := ⟨_, rfl⟩
                obtain ⟨v3241, c3242⟩ : ∃ v, I3065 a0 12 = v := ⟨_, rfl⟩
                obtain ⟨v3243, c3244⟩ : ∃ v, I3065 a0 8 = v := ⟨_, rfl⟩
                have b3245 := iv15_8 hS3073.1 ta0 c3244
                exact tr_vret hZ dX12_readEvent_96 rfl (by decide) (by decide) ⟨rfl, rfl, rfl, rfl, rfl, hS3073, (Or.inr (⟨(by (try rw [w3041]); first | done | omega), (by (try rw [w3041]); (try rw [c3218]); first | done | omega), (by (try rw [w3041]); (try rw [c3221]); first | done | omega), (by (try rw [w3041]); (try rw [c3223]); first | done | omega), trivial⟩)), trivial⟩
          · skip
            obtain ⟨v3246, c3247⟩ : ∃ v, I3065 a0 9 = v := ⟨_, rfl⟩
            have b3248 := iv15_9 hS3073.1 ta0 c3247
            rw [c3247] at p3096
            obtain ⟨v3249, c3250⟩ : ∃ v, I3065 a0 13 = v := ⟨_, rfl⟩
            rw [c3250] at p3097
            obtain ⟨v3251, c3252⟩ : ∃ v, I3065 a0 14 = v := ⟨_, rfl⟩
            rw [c3252] at p3098
            replace hF := hF.neg (by omega)
            replace hP := hP.neg (by omega)
            replace hF := hF.pos (by omega)
            replace hP := hP.pos (by omega)
            refine tr_istore_n dX12_readEvent_57 (by decide) (by decide) ?_
            refine tr_iload_n dX12_readEvent_58 rfl ?_
            refine q_iconst dX12_readEvent_59 (by decide) ?_
            intro v3253 h3254
            refine q_icmp_ne 69 dX12_readEvent_60 (by decide) (fun h3255 => ?_) (fun h3255 => ?_)
            · skip
              exfalso; omega
            · skip
              refine tr_iload_n dX12_readEvent_63 rfl ?_
              refine q_iconst dX12_readEvent_64 (by decide) ?_
              intro v3256 h3257
              refine q_iaddE dX12_readEvent_65 (by intros; omega) ?_
              intro v3258 h3259
              refine tr_goto 86 dX12_readEvent_66 (by decide) ?_
              refine tr_istore dX12_readEvent_86 (by decide) (by decide) ?_
              refine tr_aload_n dX12_readEvent_88 rfl ?_
              refine q_getI dX12_readEvent_89 fl12_99 (kR15 hS3073.1 ta0) c3247 ?_
              refine q_iconst dX12_readEvent_92 (by decide) ?_
              intro v3260 h3261
              refine q_icmp_ne 97 dX12_readEvent_93 (by decide) (fun h3262 => ?_) (fun h3262 => ?_)
              · skip
                exfalso; omega
              · skip
                have eF := hF.eq
                have eP := hP.eq
                obtain ⟨v3263, c3264⟩ : ∃ v, I3065 a0 10 = v := ⟨_, rfl⟩
                have b3265 := iv15_10 hS3073.1 ta0 c3264
                obtain ⟨v3266, c3267⟩ : ∃ v, I3065 a0 11 = v := ⟨_, rfl⟩
                obtain ⟨y3268, c3269⟩ : ∃ v, L3067 a0 15 = v := ⟨_, rfl⟩
                obtain ⟨v3270, c3271⟩ : ∃ v, I3065 a0 12 = v := ⟨_, rfl⟩
                obtain ⟨v3272, c3273⟩ : ∃ v, I3065 a0 8 = v := ⟨_, rfl⟩
                have b3274 := iv15_8 hS3073.1 ta0 c3273
                exact tr_vret hZ dX12_readEvent_96 rfl (by decide) (by decide) ⟨rfl, rfl, rfl, rfl, rfl, hS3073, (Or.inr (⟨(by (try rw [w3041]); first | done | omega), (by (try rw [w3041]); (try rw [c3247]); first | done | omega), (by (try rw [w3041]); (try rw [c3250]); first | done | omega), (by (try rw [w3041]); (try rw [c3252]); first | done | omega), trivial⟩)), trivial⟩
        · skip
          exfalso; omega
    · skip
      obtain ⟨v3275, c3276⟩ : ∃ v, I2990 a0 9 = v := ⟨_, rfl⟩
      have b3277 := iv15_9 hS2998.1 ta0 c3276
      rw [c3276] at p3012
      obtain ⟨v3278, c3279⟩ : ∃ v, I2990 a0 13 = v := ⟨_, rfl⟩
      rw [c3279] at p3013
      obtain ⟨v3280, c3281⟩ : ∃ v, I2990 a0 14 = v := ⟨_, rfl⟩
      rw [c3281] at p3014
      replace hF := hF.pos (by omega)
      replace hP := hP.pos (by omega)
      refine tr_iload_n dX12_readEvent_13 rfl ?_
      refine q_iconst dX12_readEvent_14 (by decide) ?_
      intro v3282 h3283
      refine q_icmp_eq 23 dX12_readEvent_15 (by decide) (fun h3284 => ?_) (fun h3284 => ?_)
      · skip
        exfalso; omega
      · skip
        refine tr_iload_n dX12_readEvent_18 rfl ?_
        refine q_iconst dX12_readEvent_19 (by decide) ?_
        intro v3285 h3286
        refine q_icmp_ne 40 dX12_readEvent_20 (by decide) (fun h3287 => ?_) (fun h3287 => ?_)
        · skip
          refine q_bipush dX12_readEvent_40 (by decide +kernel) ?_
          intro v3288 h3289
          refine tr_istore_n dX12_readEvent_42 (by decide) (by decide) ?_
          refine tr_aload_n dX12_readEvent_43 rfl ?_
          refine q_iconst dX12_readEvent_44 (by decide) ?_
          intro v3290 h3291
          refine tr_aload_n dX12_readEvent_45 rfl ?_
          refine tr_getR dX12_readEvent_46 fl12_188 (kR15 hS2998.1 ta0) d2 ?_
          refine q_getI dX12_readEvent_49 fl12_192 (kR14 hS2998.1 ta1) ((hS2998.cell ta1 (by decide +kernel)).trans c30) ?_
          refine q_iconst dX12_readEvent_52 (by decide) ?_
          intro v3292 h3293
          refine q_isubE dX12_readEvent_53 (by intros; omega) ?_
          intro v3294 h3295
          refine q_callVi hE (M' := mX12_readWhole) (as := [_, _]) dX12_readEvent_54 lk12_161 inX12_readWhole seX12_readWhole myX12_readWhole (by decide) ⟨by decide, by decide⟩ rfl (kR15 hS2998.1 ta0) (Nat.le_of_ble_eq_true rfl) rfl rfl (by decide) (by decide) (k_X12_readWhole hS2998.1 ta0) ?_
          rintro v3300 cn' K' N' I3296 R3297 L3298 ⟨rfl, rfl, rfl, rfl, g3299, p3301, w3302, -⟩
          have hS3303 := hS2998.tr g3299 (by decide +kernel) (by decide +kernel)
          have c3304 : I3296 a1 2 = v37 := (g3299.cell ta1 (by decide +kernel)).trans c2999
          have b3305 : 0 ≤ v3300.toInt ∧ v3300.toInt ≤ 239 := by omega
          clear p3301
          have ov3306 := w3302.over (by rw [c3276]; omega)
          obtain ⟨v3307, c3308⟩ : ∃ v, I3296 a0 9 = v := ⟨_, rfl⟩
          have b3309 := iv15_9 hS3303.1 ta0 c3308
          obtain ⟨v3310, c3311⟩ : ∃ v, I3296 a0 13 = v := ⟨_, rfl⟩
          obtain ⟨v3312, c3313⟩ : ∃ v, I3296 a0 14 = v := ⟨_, rfl⟩
          (try rw [c3308] at ov3306)
          (try rw [c3311] at ov3306)
          (try rw [c3313] at ov3306)
          (try rw [c3276] at ov3306)
          (try rw [c3279] at ov3306)
          (try rw [c3281] at ov3306)
          refine tr_istore_n dX12_readEvent_57 (by decide) (by decide) ?_
          refine tr_iload_n dX12_readEvent_58 rfl ?_
          refine q_iconst dX12_readEvent_59 (by decide) ?_
          intro v3314 h3315
          refine q_icmp_ne 69 dX12_readEvent_60 (by decide) (fun h3316 => ?_) (fun h3316 => ?_)
          · skip
            exfalso; omega
          · skip
            refine tr_iload_n dX12_readEvent_63 rfl ?_
            refine q_iconst dX12_readEvent_64 (by decide) ?_
            intro v3317 h3318
            refine q_iaddE dX12_readEvent_65 (by intros; omega) ?_
            intro v3319 h3320
            refine tr_goto 86 dX12_readEvent_66 (by decide) ?_
            refine tr_istore dX12_readEvent_86 (by decide) (by decide) ?_
            refine tr_aload_n dX12_readEvent_88 rfl ?_
            refine q_getI dX12_readEvent_89 fl12_99 (kR15 hS3303.1 ta0) c3308 ?_
            refine q_iconst dX12_readEvent_92 (by decide) ?_
            intro v3321 h3322
            refine q_icmp_ne 97 dX12_readEvent_93 (by decide) (fun h3323 => ?_) (fun h3323 => ?_)
            · skip
              exfalso; omega
            · skip
              have eF := hF.eq
              have eP := hP.eq
              obtain ⟨v3324, c3325⟩ : ∃ v, I3296 a0 10 = v := ⟨_, rfl⟩
              have b3326 := iv15_10 hS3303.1 ta0 c3325
              obtain ⟨v3327, c3328⟩ : ∃ v, I3296 a0 11 = v := ⟨_, rfl⟩
              obtain ⟨y3329, c3330⟩ : ∃ v, L3298 a0 15 = v := ⟨_, rfl⟩
              obtain ⟨v3331, c3332⟩ : ∃ v, I3296 a0 12 = v := ⟨_, rfl⟩
              obtain ⟨v3333, c3334⟩ : ∃ v, I3296 a0 8 = v := ⟨_, rfl⟩
              have b3335 := iv15_8 hS3303.1 ta0 c3334
              exact tr_vret hZ dX12_readEvent_96 rfl (by decide) (by decide) ⟨rfl, rfl, rfl, rfl, rfl, hS3303, (Or.inr (⟨(by first | done | omega), (by (try rw [c3308]); first | done | omega), (by (try rw [c3311]); first | done | omega), (by (try rw [c3313]); first | done | omega), trivial⟩)), trivial⟩
        · skip
          exfalso; omega
    · skip
      obtain ⟨v3336, c3337⟩ : ∃ v, I2990 a0 9 = v := ⟨_, rfl⟩
      have b3338 := iv15_9 hS2998.1 ta0 c3337
      rw [c3337] at p3017
      obtain ⟨v3339, c3340⟩ : ∃ v, I2990 a0 13 = v := ⟨_, rfl⟩
      rw [c3340] at p3018
      obtain ⟨v3341, c3342⟩ : ∃ v, I2990 a0 14 = v := ⟨_, rfl⟩
      rw [c3342] at p3019
      replace hF := hF.neg (by omega)
      replace hP := hP.neg (by omega)
      replace hF := hF.pos (by omega)
      replace hP := hP.pos (by omega)
      refine tr_iload_n dX12_readEvent_13 rfl ?_
      refine q_iconst dX12_readEvent_14 (by decide) ?_
      intro v3343 h3344
      refine q_icmp_eq 23 dX12_readEvent_15 (by decide) (fun h3345 => ?_) (fun h3345 => ?_)
      · skip
        exfalso; omega
      · skip
        refine tr_iload_n dX12_readEvent_18 rfl ?_
        refine q_iconst dX12_readEvent_19 (by decide) ?_
        intro v3346 h3347
        refine q_icmp_ne 40 dX12_readEvent_20 (by decide) (fun h3348 => ?_) (fun h3348 => ?_)
        · skip
          refine q_bipush dX12_readEvent_40 (by decide +kernel) ?_
          intro v3349 h3350
          refine tr_istore_n dX12_readEvent_42 (by decide) (by decide) ?_
          refine tr_aload_n dX12_readEvent_43 rfl ?_
          refine q_iconst dX12_readEvent_44 (by decide) ?_
          intro v3351 h3352
          refine tr_aload_n dX12_readEvent_45 rfl ?_
          refine tr_getR dX12_readEvent_46 fl12_188 (kR15 hS2998.1 ta0) d2 ?_
          refine q_getI dX12_readEvent_49 fl12_192 (kR14 hS2998.1 ta1) ((hS2998.cell ta1 (by decide +kernel)).trans c30) ?_
          refine q_iconst dX12_readEvent_52 (by decide) ?_
          intro v3353 h3354
          refine q_isubE dX12_readEvent_53 (by intros; omega) ?_
          intro v3355 h3356
          refine q_callVi hE (M' := mX12_readWhole) (as := [_, _]) dX12_readEvent_54 lk12_161 inX12_readWhole seX12_readWhole myX12_readWhole (by decide) ⟨by decide, by decide⟩ rfl (kR15 hS2998.1 ta0) (Nat.le_of_ble_eq_true rfl) rfl rfl (by decide) (by decide) (k_X12_readWhole hS2998.1 ta0) ?_
          rintro v3361 cn' K' N' I3357 R3358 L3359 ⟨rfl, rfl, rfl, rfl, g3360, p3362, w3363, -⟩
          have hS3364 := hS2998.tr g3360 (by decide +kernel) (by decide +kernel)
          have c3365 : I3357 a1 2 = v37 := (g3360.cell ta1 (by decide +kernel)).trans c2999
          have b3366 : 0 ≤ v3361.toInt ∧ v3361.toInt ≤ 0 := by omega
          clear p3362
          have ov3367 := w3363.over (by rw [c3337]; omega)
          obtain ⟨v3368, c3369⟩ : ∃ v, I3357 a0 9 = v := ⟨_, rfl⟩
          have b3370 := iv15_9 hS3364.1 ta0 c3369
          obtain ⟨v3371, c3372⟩ : ∃ v, I3357 a0 13 = v := ⟨_, rfl⟩
          obtain ⟨v3373, c3374⟩ : ∃ v, I3357 a0 14 = v := ⟨_, rfl⟩
          (try rw [c3369] at ov3367)
          (try rw [c3372] at ov3367)
          (try rw [c3374] at ov3367)
          (try rw [c3337] at ov3367)
          (try rw [c3340] at ov3367)
          (try rw [c3342] at ov3367)
          refine tr_istore_n dX12_readEvent_57 (by decide) (by decide) ?_
          refine tr_iload_n dX12_readEvent_58 rfl ?_
          refine q_iconst dX12_readEvent_59 (by decide) ?_
          intro v3375 h3376
          refine q_icmp_ne 69 dX12_readEvent_60 (by decide) (fun h3377 => ?_) (fun h3377 => ?_)
          · skip
            exfalso; omega
          · skip
            refine tr_iload_n dX12_readEvent_63 rfl ?_
            refine q_iconst dX12_readEvent_64 (by decide) ?_
            intro v3378 h3379
            refine q_iaddE dX12_readEvent_65 (by intros; omega) ?_
            intro v3380 h3381
            refine tr_goto 86 dX12_readEvent_66 (by decide) ?_
            refine tr_istore dX12_readEvent_86 (by decide) (by decide) ?_
            refine tr_aload_n dX12_readEvent_88 rfl ?_
            refine q_getI dX12_readEvent_89 fl12_99 (kR15 hS3364.1 ta0) c3369 ?_
            refine q_iconst dX12_readEvent_92 (by decide) ?_
            intro v3382 h3383
            refine q_icmp_ne 97 dX12_readEvent_93 (by decide) (fun h3384 => ?_) (fun h3384 => ?_)
            · skip
              exfalso; omega
            · skip
              have eF := hF.eq
              have eP := hP.eq
              obtain ⟨v3385, c3386⟩ : ∃ v, I3357 a0 10 = v := ⟨_, rfl⟩
              have b3387 := iv15_10 hS3364.1 ta0 c3386
              obtain ⟨v3388, c3389⟩ : ∃ v, I3357 a0 11 = v := ⟨_, rfl⟩
              obtain ⟨y3390, c3391⟩ : ∃ v, L3359 a0 15 = v := ⟨_, rfl⟩
              obtain ⟨v3392, c3393⟩ : ∃ v, I3357 a0 12 = v := ⟨_, rfl⟩
              obtain ⟨v3394, c3395⟩ : ∃ v, I3357 a0 8 = v := ⟨_, rfl⟩
              have b3396 := iv15_8 hS3364.1 ta0 c3395
              exact tr_vret hZ dX12_readEvent_96 rfl (by decide) (by decide) ⟨rfl, rfl, rfl, rfl, rfl, hS3364, (Or.inr (⟨(by first | done | omega), (by (try rw [c3369]); first | done | omega), (by (try rw [c3372]); first | done | omega), (by (try rw [c3374]); first | done | omega), trivial⟩)), trivial⟩
        · skip
          exfalso; omega
def wik_X12_readCheese : List Nat := [899, 903, 968, 969, 970, 971, 972, 973, 974, 3775, 4031, 4799, 4863]
def wrk_X12_readCheese : List Nat := []
def wlk_X12_readCheese : List Nat := [975, 4735]
set_option maxHeartbeats 4000000 in
theorem fk_X12_readCheese {l : Launch} {T : Nat → Nat} {cn : Nat} {K N : Nat → Nat} {I0 : cz_I} {R0 : cz_R} {L0 : cz_L} (hW0 : Wf T cn K N I0 R0 0) (gB : cz_B) (gs : Int) (gQ : Nat → Int) {a0 : Nat} (ta0 : T a0 = 15) (hT : ∀ t, R0 a0 5 = some t → Tx I0 t gB) (hN : ∀ b, R0 a0 4 = some b → NmM I0 R0 L0 b gQ) (pre0 : (I0 a0 9).toInt = (tkM gB gs)) (pre1 : (I0 a0 9).toInt ≤ 4) (pre2 : (I0 a0 10).toInt = (tkS gB gs)) (pre3 : (I0 a0 11).toInt = (tkG gB gs)) (pre4 : (AtW ((tkK gB gs)) ((L0 a0 15).toInt) ((tkW gB gs)))) (pre5 : (AtV ((tkK gB gs)) ((I0 a0 12).toInt) ((tkV gB gs)))) (pre6 : (AtN ((tkK gB gs)) ((I0 a0 8).toInt) ((tkN gB gs)))) (pre7 : (I0 a0 7).toInt = (gB.2)) (pre8 : ∀ b1, R0 a0 4 = some b1 → (I0 b1 0).toInt = (gQ 0)) (pre9 : ∀ b1, R0 a0 4 = some b1 → (I0 b1 1).toInt = (gQ 1)) (pre10 : ∀ b1, R0 a0 4 = some b1 → (I0 b1 2).toInt = (gQ 2)) (pre11 : ∀ b1, R0 a0 4 = some b1 → (I0 b1 3).toInt = (gQ 3)) (pre12 : ∀ b1, R0 a0 4 = some b1 → (I0 b1 4).toInt = (gQ 4)) (pre13 : ∀ b1, R0 a0 4 = some b1 → (I0 b1 5).toInt = (gQ 5)) (pre14 : ∀ b1, R0 a0 4 = some b1 → (I0 b1 6).toInt = (gQ 6)) (pre15 : ∀ b1, R0 a0 4 = some b1 → (I0 b1 9).toInt = (gQ 8)) (pre16 : (Q7M ((gQ 0)) ((gQ 7)))) (pre17 : (tkK gB gs) = 1) (pre18 : (srt gB gs) = 5) (nn4 : ∃ b, R0 a0 4 = some b) : ConE l mX12_readCheese [.ref a0] cn K N I0 R0 L0 (ca_v (fun cn' K' N' I' R' L' => cn = cn' ∧ K = K' ∧ N = N' ∧ R0 = R' ∧ St T cn K N 0 wik_X12_readCheese wrk_X12_readCheese I0 R0 I' R0 ∧ ((((lnF gB gQ gs) = 0) ∧ (∀ b1, R0 a0 4 = some b1 → (I' b1 0).toInt = (lnQ gB gQ gs 0)) ∧ (∀ b1, R0 a0 4 = some b1 → (I' b1 1).toInt = (lnQ gB gQ gs 1)) ∧ (∀ b1, R0 a0 4 = some b1 → (I' b1 2).toInt = (lnQ gB gQ gs 2)) ∧ (∀ b1, R0 a0 4 = some b1 → (I' b1 3).toInt = (lnQ gB gQ gs 3)) ∧ (∀ b1, R0 a0 4 = some b1 → (I' b1 4).toInt = (lnQ gB gQ gs 4)) ∧ (∀ b1, R0 a0 4 = some b1 → (I' b1 5).toInt = (lnQ gB gQ gs 5)) ∧ (∀ b1, R0 a0 4 = some b1 → (I' b1 6).toInt = (lnQ gB gQ gs 6)) ∧ (∀ b1, R0 a0 4 = some b1 → (I' b1 9).toInt = (lnQ gB gQ gs 8)) ∧ ((I' a0 13).toInt = (I0 a0 13).toInt) ∧ ((I' a0 9).toInt = (tkM gB (lnS gB gQ gs))) ∧ ((I' a0 9).toInt ≤ 4) ∧ ((I' a0 10).toInt = (tkS gB (lnS gB gQ gs))) ∧ ((I' a0 11).toInt = (tkG gB (lnS gB gQ gs))) ∧ ((AtW ((tkK gB (lnS gB gQ gs))) ((L' a0 15).toInt) ((tkW gB (lnS gB gQ gs))))) ∧ ((AtV ((tkK gB (lnS gB gQ gs))) ((I' a0 12).toInt) ((tkV gB (lnS gB gQ gs))))) ∧ ((AtN ((tkK gB (lnS gB gQ gs))) ((I' a0 8).toInt) ((tkN gB (lnS gB gQ gs))))) ∧ LgS T wlk_X12_readCheese L0 L' ∧ (∀ b, R0 a0 4 = some b → NmM I' R0 L' b (lnQ gB gQ gs)) ∧ True) ∨ (((lnF gB gQ gs) ≠ 0) ∧ ((I' a0 9).toInt = 5) ∧ ((I' a0 13).toInt = (lnF gB gQ gs)) ∧ ((I' a0 14).toInt = (lnP gB gQ gs)) ∧ True)) ∧ True)) := by
  refine ConE.of (by decide +kernel) rfl (Nat.le_of_ble_eq_true rfl) rfl (fun X hX hZ hE => ?_)
  subst hX
  have hS0 : St T cn K N 0 wik_X12_readCheese wrk_X12_readCheese I0 R0 I0 R0 := St.rf0 hW0
  have hL0 : LgS T wlk_X12_readCheese L0 L0 := LgS.rf0
  obtain ⟨a1, d2⟩ := nn4
  have ta1 : T a1 = 14 := hW0.rsN ta0 rfl d2
  obtain ⟨v3, c4⟩ : ∃ v, I0 a0 9 = v := ⟨_, rfl⟩
  have b5 := iv15_9 hS0.1 ta0 c4
  have p6 := pre0
  rw [c4] at p6
  have p7 := pre1
  rw [c4] at p7
  obtain ⟨v8, c9⟩ : ∃ v, I0 a0 10 = v := ⟨_, rfl⟩
  have b10 := iv15_10 hS0.1 ta0 c9
  have p11 := pre2
  rw [c9] at p11
  obtain ⟨v12, c13⟩ : ∃ v, I0 a0 11 = v := ⟨_, rfl⟩
  have p14 := pre3
  rw [c13] at p14
  obtain ⟨y15, c16⟩ : ∃ v, L0 a0 15 = v := ⟨_, rfl⟩
  have p17 := pre4
  rw [c16] at p17
  obtain ⟨v18, c19⟩ : ∃ v, I0 a0 12 = v := ⟨_, rfl⟩
  have p20 := pre5
  rw [c19] at p20
  obtain ⟨v21, c22⟩ : ∃ v, I0 a0 8 = v := ⟨_, rfl⟩
  have b23 := iv15_8 hS0.1 ta0 c22
  have p24 := pre6
  rw [c22] at p24
  obtain ⟨v25, c26⟩ : ∃ v, I0 a0 7 = v := ⟨_, rfl⟩
  have b27 := iv15_7 hW0 ta0 c26
  have p28 := pre7
  rw [c26] at p28
  obtain ⟨v29, c30⟩ : ∃ v, I0 a1 0 = v := ⟨_, rfl⟩
  have b31 := iv14_0 hW0 ta1 c30
  have p32 := pre8 _ d2
  rw [c30] at p32
  obtain ⟨v33, c34⟩ : ∃ v, I0 a1 1 = v := ⟨_, rfl⟩
  have b35 := iv14_1 hW0 ta1 c34
  have p36 := pre9 _ d2
  rw [c34] at p36
  obtain ⟨v37, c38⟩ : ∃ v, I0 a1 2 = v := ⟨_, rfl⟩
  have b39 := iv14_2 hW0 ta1 c38
  have p40 := pre10 _ d2
  rw [c38] at p40
  obtain ⟨v41, c42⟩ : ∃ v, I0 a1 3 = v := ⟨_, rfl⟩
  have b43 := iv14_3 hS0.1 ta1 c42
  have p44 := pre11 _ d2
  rw [c42] at p44
  obtain ⟨v45, c46⟩ : ∃ v, I0 a1 4 = v := ⟨_, rfl⟩
  have b47 := iv14_4 hW0 ta1 c46
  have p48 := pre12 _ d2
  rw [c46] at p48
  obtain ⟨v49, c50⟩ : ∃ v, I0 a1 5 = v := ⟨_, rfl⟩
  have b51 := iv14_5 hW0 ta1 c50
  have p52 := pre13 _ d2
  rw [c50] at p52
  obtain ⟨v53, c54⟩ : ∃ v, I0 a1 6 = v := ⟨_, rfl⟩
  have b55 := iv14_6 hW0 ta1 c54
  have p56 := pre14 _ d2
  rw [c54] at p56
  obtain ⟨v57, c58⟩ : ∃ v, I0 a1 9 = v := ⟨_, rfl⟩
  have b59 := iv14_9 hW0 ta1 c58
  have p60 := pre15 _ d2
  rw [c58] at p60
  have p61 := pre16
  have p62 := pre17
  have p63 := pre18
  obtain ⟨v64, c65⟩ : ∃ v, I0 a0 13 = v := ⟨_, rfl⟩
  have hM0 := hN _ d2
  have hF := lnF_ch gB gQ gs
  have hP := lnP_ch gB gQ gs
  replace hF := hF.neg (by omega)
  replace hP := hP.neg (by omega)
  replace hF := hF.neg (by omega)
  replace hP := hP.neg (by omega)
  refine tr_aload_n dX12_readCheese_0 rfl ?_
  refine tr_aload_n dX12_readCheese_1 rfl ?_
  refine tr_getR dX12_readCheese_2 fl12_188 (kR15 hS0.1 ta0) d2 ?_
  refine q_getI dX12_readCheese_5 fl12_224 (kR14 hS0.1 ta1) c42 ?_
  refine q_bipush dX12_readCheese_8 (by decide +kernel) ?_
  intro v66 h67
  refine q_callVv hE (M' := mX12_begins) (as := [_, _]) dX12_readCheese_10 lk12_268 inX12_begins seX12_begins myX12_begins (by decide) ⟨by decide, by decide⟩ rfl (kR15 hS0.1 ta0) (Nat.le_of_ble_eq_true rfl) rfl rfl (by decide) (by decide) (fk_X12_begins hS0.1 (gB) (gs) (gQ) ta0 (TxA.kp hT hS0 ta0 rfl rfl rfl (by decide +kernel) (by decide +kernel)) (by (try rw [c4]); first | done | omega) (by (try rw [c4]); first | done | omega) (by (try rw [c9]); first | done | omega) (by (try rw [c13]); first | done | omega) (by (try rw [c16]); first | done | assumption) (by (try rw [c19]); first | done | assumption) (by (try rw [c22]); first | done | assumption) (by (try rw [c26]); first | done | omega) (fun q0 z0 => by obtain rfl := Option.some.inj ((d2).symm.trans z0); (try rw [c30]); first | done | omega) (by first | done | omega) ⟨_, d2⟩) ?_
  rintro cn' K' N' I68 R69 L70 ⟨rfl, rfl, rfl, rfl, g71, dj74, -⟩
  have hM75 : NmM I68 R0 L0 a1 gQ := NmM.kpS hM0 g71 hS0.1 ta1 (by decide +kernel) (by decide +kernel)
  have hS76 := hS0.tr g71 (by decide +kernel) (by decide +kernel)
  have c77 : I68 a1 3 = v41 := (g71.cell ta1 (by decide +kernel)).trans c42
  rcases dj74 with ⟨p78, p79, p80, p81, p82, p83, p84, p85, p86, p87, gl88, -⟩ | ⟨p89, p90, p91, p92, -⟩ | ⟨p93, p94, p95, p96, p97, -⟩
  · skip
    have hL98 := hL0.tr gl88 (by decide +kernel)
    have hM99 : NmM I68 R0 L70 a1 gQ := NmM.kpL hM75 gl88 hS76.1 ta1 (by decide +kernel)
    obtain ⟨v100, c101⟩ : ∃ v, I68 a0 13 = v := ⟨_, rfl⟩
    rw [c101] at p80
    rw [c65] at p80
    obtain ⟨v102, c103⟩ : ∃ v, I68 a0 9 = v := ⟨_, rfl⟩
    have b104 := iv15_9 hS76.1 ta0 c103
    rw [c103] at p81
    rw [c103] at p82
    obtain ⟨v105, c106⟩ : ∃ v, I68 a0 10 = v := ⟨_, rfl⟩
    have b107 := iv15_10 hS76.1 ta0 c106
    rw [c106] at p83
    obtain ⟨v108, c109⟩ : ∃ v, I68 a0 11 = v := ⟨_, rfl⟩
    rw [c109] at p84
    obtain ⟨y110, c111⟩ : ∃ v, L70 a0 15 = v := ⟨_, rfl⟩
    rw [c111] at p85
    obtain ⟨v112, c113⟩ : ∃ v, I68 a0 12 = v := ⟨_, rfl⟩
    rw [c113] at p86
    obtain ⟨v114, c115⟩ : ∃ v, I68 a0 8 = v := ⟨_, rfl⟩
    have b116 := iv15_8 hS76.1 ta0 c115
    rw [c115] at p87
    replace hF := hF.neg (by omega)
    replace hP := hP.neg (by omega)
    replace hF := hF.neg (by omega)
    replace hP := hP.neg (by omega)
    obtain ⟨w117, w118, w119, w120, w121, w122, w123, w124, w125, w126, w127, w128⟩ := lnl_5 (B := gB) (Q := gQ) (s := gs) (by omega)
    replace hF := hF.to w117 (chF_ch gB gQ (tkN gB gs))
    replace hP := hP.to w118 (chP_ch gB gQ (tkN gB gs))
    refine tr_aload_n dX12_readCheese_13 rfl ?_
    refine q_callVl hE (M' := mX12_readFresh) (as := []) dX12_readCheese_14 lk12_285 inX12_readFresh seX12_readFresh myX12_readFresh (by decide) ⟨by decide, by decide⟩ rfl (kR15 hS76.1 ta0) (Nat.le_of_ble_eq_true rfl) rfl rfl (by decide) (by decide) (fk_X12_readFresh hS76.1 (gB) ((tkN gB gs)) (gQ) ta0 (TxA.kp hT hS76 ta0 rfl rfl rfl (by decide +kernel) (by decide +kernel)) (fun b hb => (Option.some.inj (d2.symm.trans hb)) ▸ hM99) (by (try rw [c103]); first | done | omega) (by (try rw [c103]); first | done | omega) (by (try rw [c106]); first | done | omega) (by (try rw [c109]); first | done | omega) (by (try rw [c111]); first | done | assumption) (by (try rw [c113]); first | done | assumption) (by (try rw [c115]); first | done | assumption) (by (try rw [((hS76.cell ta0 (by decide +kernel)).trans c26)]); first | done | omega) (fun q0 z0 => by obtain rfl := Option.some.inj ((d2).symm.trans z0); (try rw [c77]); first | done | omega) (fun q0 z0 => by obtain rfl := Option.some.inj ((d2).symm.trans z0); (try rw [((hS76.cell ta1 (by decide +kernel)).trans c46)]); first | done | omega) ⟨_, d2⟩) ?_
    rintro y134 cn' K' N' I129 R130 L131 ⟨rfl, rfl, rfl, rfl, g132, dj135, -⟩
    have hM136 : NmM I129 R0 L70 a1 gQ := NmM.kpS hM99 g132 hS76.1 ta1 (by decide +kernel) (by decide +kernel)
    have hS137 := hS76.tr g132 (by decide +kernel) (by decide +kernel)
    have c138 : I129 a1 3 = v41 := (g132.cell ta1 (by decide +kernel)).trans c77
    rcases dj135 with ⟨p139, p140, p141, p142, p143, p144, p145, p146, p147, p148, p149, p150, p151, gl152, -⟩ | ⟨p153, p154, p155, p156, -⟩ | ⟨p157, p158, p159, p160, p161, -⟩
    · skip
      have hL162 := hL98.tr gl152 (by decide +kernel)
      have hM163 : NmM I129 R0 L131 a1 gQ := NmM.kpL hM136 gl152 hS137.1 ta1 (by decide +kernel)
      obtain ⟨v164, c165⟩ : ∃ v, I129 a0 13 = v := ⟨_, rfl⟩
      rw [c165] at p144
      rw [c101] at p144
      obtain ⟨v166, c167⟩ : ∃ v, I129 a0 9 = v := ⟨_, rfl⟩
      have b168 := iv15_9 hS137.1 ta0 c167
      rw [c167] at p145
      rw [c167] at p146
      obtain ⟨v169, c170⟩ : ∃ v, I129 a0 10 = v := ⟨_, rfl⟩
      have b171 := iv15_10 hS137.1 ta0 c170
      rw [c170] at p147
      obtain ⟨v172, c173⟩ : ∃ v, I129 a0 11 = v := ⟨_, rfl⟩
      rw [c173] at p148
      obtain ⟨y174, c175⟩ : ∃ v, L131 a0 15 = v := ⟨_, rfl⟩
      rw [c175] at p149
      obtain ⟨v176, c177⟩ : ∃ v, I129 a0 12 = v := ⟨_, rfl⟩
      rw [c177] at p150
      obtain ⟨v178, c179⟩ : ∃ v, I129 a0 8 = v := ⟨_, rfl⟩
      have b180 := iv15_8 hS137.1 ta0 c179
      rw [c179] at p151
      replace hF := hF.neg (by omega)
      replace hP := hP.neg (by omega)
      replace hF := hF.neg (by omega)
      replace hP := hP.neg (by omega)
      refine tr_lstore_n dX12_readCheese_17 (by decide) (by decide) (by decide) ?_
      refine tr_aload_n dX12_readCheese_18 rfl ?_
      refine tr_ldcwS dX12_readCheese_19 ld12_289 ?_
      refine q_iconst dX12_readCheese_22 (by decide) ?_
      intro v181 h182
      refine tr_aload_n dX12_readCheese_23 rfl ?_
      refine tr_getR dX12_readCheese_24 fl12_188 (kR15 hS137.1 ta0) d2 ?_
      refine q_getI dX12_readCheese_27 fl12_263 (kR14 hS137.1 ta1) ((hS137.cell ta1 (by decide +kernel)).trans c34) ?_
      refine q_iconst dX12_readCheese_30 (by decide) ?_
      intro v183 h184
      refine q_isubE dX12_readCheese_31 (by intros; omega) ?_
      intro v185 h186
      refine q_callVi hE (M' := mX12_readPart) (as := [_, _, _]) dX12_readCheese_32 lk12_249 inX12_readPart seX12_readPart myX12_readPart (by decide) ⟨by decide, by decide⟩ rfl (kR15 hS137.1 ta0) (Nat.le_of_ble_eq_true rfl) rfl rfl (by decide) (by decide) (fk_X12_readPart hS137.1 (gB) ((tkN gB (tkN gB gs))) ta0 (by decide) (TxA.kp hT hS137 ta0 rfl rfl rfl (by decide +kernel) (by decide +kernel)) (by (try rw [c167]); first | done | omega) (by (try rw [c167]); first | done | omega) (by (try rw [c170]); first | done | omega) (by (try rw [c173]); first | done | omega) (by (try rw [c175]); first | done | assumption) (by (try rw [c177]); first | done | assumption) (by (try rw [c179]); first | done | assumption) (by (try rw [((hS137.cell ta0 (by decide +kernel)).trans c26)]); first | done | omega)) ?_
      rintro v192 cn' K' N' I187 R188 L189 ⟨rfl, rfl, rfl, rfl, g190, dj193, -⟩
      (try rw [pk_15] at dj193)
      have hM194 : NmM I187 R0 L131 a1 gQ := NmM.kpS hM163 g190 hS137.1 ta1 (by decide +kernel) (by decide +kernel)
      have hS195 := hS137.tr g190 (by decide +kernel) (by decide +kernel)
      have c196 : I187 a1 3 = v41 := (g190.cell ta1 (by decide +kernel)).trans c138
      rcases dj193 with ⟨p197, p198, p199, p200, p201, p202, p203, p204, p205, p206, p207, p208, p209, p210, gl211, -⟩ | ⟨p212, p213, p214, p215, p216, -⟩ | ⟨p217, p218, p219, p220, p221, p222, p223, -⟩ | ⟨p224, p225, p226, p227, p228, p229, p230, p231, -⟩
      · skip
        have hL232 := hL162.tr gl211 (by decide +kernel)
        have hM233 : NmM I187 R0 L189 a1 gQ := NmM.kpL hM194 gl211 hS195.1 ta1 (by decide +kernel)
        obtain ⟨v234, c235⟩ : ∃ v, I187 a0 13 = v := ⟨_, rfl⟩
        rw [c235] at p203
        rw [c165] at p203
        obtain ⟨v236, c237⟩ : ∃ v, I187 a0 9 = v := ⟨_, rfl⟩
        have b238 := iv15_9 hS195.1 ta0 c237
        rw [c237] at p204
        rw [c237] at p205
        obtain ⟨v239, c240⟩ : ∃ v, I187 a0 10 = v := ⟨_, rfl⟩
        have b241 := iv15_10 hS195.1 ta0 c240
        rw [c240] at p206
        obtain ⟨v242, c243⟩ : ∃ v, I187 a0 11 = v := ⟨_, rfl⟩
        rw [c243] at p207
        obtain ⟨y244, c245⟩ : ∃ v, L189 a0 15 = v := ⟨_, rfl⟩
        rw [c245] at p208
        obtain ⟨v246, c247⟩ : ∃ v, I187 a0 12 = v := ⟨_, rfl⟩
        rw [c247] at p209
        obtain ⟨v248, c249⟩ : ∃ v, I187 a0 8 = v := ⟨_, rfl⟩
        have b250 := iv15_8 hS195.1 ta0 c249
        rw [c249] at p210
        replace hF := hF.neg (by omega)
        replace hP := hP.neg (by omega)
        replace hF := hF.neg (by omega)
        replace hP := hP.neg (by omega)
        replace hF := hF.neg (by omega)
        replace hP := hP.neg (by omega)
        refine tr_istore_n dX12_readCheese_35 (by decide) (by decide) ?_
        refine tr_aload_n dX12_readCheese_36 rfl ?_
        refine tr_ldcS dX12_readCheese_37 ld12_186 ?_
        refine q_callVi hE (M' := mX12_eatsWord) (as := [_]) dX12_readCheese_39 lk12_290 inX12_eatsWord seX12_eatsWord myX12_eatsWord (by decide) ⟨by decide, by decide⟩ rfl (kR15 hS195.1 ta0) (Nat.le_of_ble_eq_true rfl) rfl rfl (by decide) (by decide) (fk_X12_eatsWord hS195.1 (gB) ((tkN gB (tkN gB (tkN gB (tkN gB gs))))) ta0 (by decide) (TxA.kp hT hS195 ta0 rfl rfl rfl (by decide +kernel) (by decide +kernel)) (by (try rw [c237]); first | done | omega) (by (try rw [c237]); first | done | omega) (by (try rw [c240]); first | done | omega) (by (try rw [c243]); first | done | omega) (by (try rw [c245]); first | done | assumption) (by (try rw [c247]); first | done | assumption) (by (try rw [c249]); first | done | assumption) (by (try rw [((hS195.cell ta0 (by decide +kernel)).trans c26)]); first | done | omega)) ?_
        rintro v256 cn' K' N' I251 R252 L253 ⟨rfl, rfl, rfl, rfl, g254, gl255, h257, dj258, -⟩
        (try rw [pk_10] at dj258)
        have hM259 : NmM I251 R0 L189 a1 gQ := NmM.kpS hM233 g254 hS195.1 ta1 (by decide +kernel) (by decide +kernel)
        have hS260 := hS195.tr g254 (by decide +kernel) (by decide +kernel)
        have c261 : I251 a1 3 = v41 := (g254.cell ta1 (by decide +kernel)).trans c196
        have c262 : I251 a0 13 = v234 := (g254.cell ta0 (by decide +kernel)).trans c235
        have hL263 := hL232.tr gl255 (by decide +kernel)
        have hM264 : NmM I251 R0 L253 a1 gQ := NmM.kpL hM259 gl255 hS260.1 ta1 (by decide +kernel)
        rcases dj258 with ⟨p265, p266, p267, p268, p269, p270, p271, p272, p273, p274, p275, -⟩ | ⟨p276, p277, p278, p279, p280, p281, p282, p283, p284, p285, -⟩
        · skip
          rw [c262] at p268
          rw [c235] at p268
          obtain ⟨v286, c287⟩ : ∃ v, I251 a0 9 = v := ⟨_, rfl⟩
          have b288 := iv15_9 hS260.1 ta0 c287
          rw [c287] at p269
          rw [c287] at p270
          obtain ⟨v289, c290⟩ : ∃ v, I251 a0 10 = v := ⟨_, rfl⟩
          have b291 := iv15_10 hS260.1 ta0 c290
          rw [c290] at p271
          obtain ⟨v292, c293⟩ : ∃ v, I251 a0 11 = v := ⟨_, rfl⟩
          rw [c293] at p272
          obtain ⟨y294, c295⟩ : ∃ v, L253 a0 15 = v := ⟨_, rfl⟩
          rw [c295] at p273
          obtain ⟨v296, c297⟩ : ∃ v, I251 a0 12 = v := ⟨_, rfl⟩
          rw [c297] at p274
          obtain ⟨v298, c299⟩ : ∃ v, I251 a0 8 = v := ⟨_, rfl⟩
          have b300 := iv15_8 hS260.1 ta0 c299
          rw [c299] at p275
          refine tr_istore dX12_readCheese_42 (by decide) (by decide) ?_
          refine tr_aload_n dX12_readCheese_44 rfl ?_
          refine q_getI dX12_readCheese_45 fl12_99 (kR15 hS260.1 ta0) c287 ?_
          refine q_iconst dX12_readCheese_48 (by decide) ?_
          intro v301 h302
          refine q_icmp_ne 53 dX12_readCheese_49 (by decide) (fun h303 => ?_) (fun h303 => ?_)
          · skip
            refine tr_aload_n dX12_readCheese_53 rfl ?_
            refine tr_lload_n dX12_readCheese_54 rfl ?_
            refine q_iconst dX12_readCheese_55 (by decide) ?_
            intro v304 h305
            refine tr_aload_n dX12_readCheese_56 rfl ?_
            refine tr_getR dX12_readCheese_57 fl12_188 (kR15 hS260.1 ta0) d2 ?_
            refine q_getI dX12_readCheese_60 fl12_224 (kR14 hS260.1 ta1) c261 ?_
            obtain ⟨v307, c308⟩ : ∃ v, I251 a1 7 = v := ⟨_, rfl⟩
            have b309 := iv14_7 hS260.1 ta1 c308
            have p306 := hS260.1.2.2.2.2.1 a0 ta0 _ d2
            rw [c308, c261, ((hS260.cell ta1 (by decide +kernel)).trans c46)] at p306
            refine q_callVv hE (M' := mX12_names) (as := [_, _, _]) dX12_readCheese_63 lk12_293 inX12_names seX12_names myX12_names (by decide) ⟨by decide, by decide⟩ rfl (kR15 hS260.1 ta0) (Nat.le_of_ble_eq_true rfl) rfl rfl (by decide) (by decide) (fk_X12_names hS260.1  ta0 (fun q0 z0 => by obtain rfl := Option.some.inj ((d2).symm.trans z0); (try rw [c308]); first | done | omega) ⟨_, d2⟩) ?_
            rintro cn' K' N' I310 R311 L312 ⟨rfl, rfl, rfl, rfl, g313, gl314, rp316, -⟩
            have hS317 := hS260.tr g313 (by decide +kernel) (by decide +kernel)
            have c318 : I310 a1 3 = v41 := (g313.cell ta1 (by decide +kernel)).trans c261
            have c319 : I310 a0 13 = v234 := (g313.cell ta0 (by decide +kernel)).trans c262
            have c320 : I310 a0 9 = v286 := (g313.cell ta0 (by decide +kernel)).trans c287
            have c321 : I310 a0 10 = v289 := (g313.cell ta0 (by decide +kernel)).trans c290
            have c322 : I310 a0 11 = v292 := (g313.cell ta0 (by decide +kernel)).trans c293
            have c323 : I310 a0 12 = v296 := (g313.cell ta0 (by decide +kernel)).trans c297
            have c324 : I310 a0 8 = v298 := (g313.cell ta0 (by decide +kernel)).trans c299
            have hL325 := hL263.tr gl314 (by decide +kernel)
            have c326 : L312 a0 15 = y294 := (gl314.cell ta0 (by decide +kernel)).trans c295
            have hM327 := NmM.up5 (B := gB) (s := (tkN gB gs)) hM264 (rp316 _ d2) (by omega) (by omega) (by rw [c308]; omega) (by omega) (by omega)
            refine tr_aload_n dX12_readCheese_66 rfl ?_
            refine tr_getR dX12_readCheese_67 fl12_188 (kR15 hS317.1 ta0) d2 ?_
            obtain ⟨a328, d329, ta328⟩ := rf14_15 hW0 ta1
            refine tr_getR dX12_readCheese_70 fl12_296 (kR14 hS317.1 ta1) d329 ?_
            refine tr_aload_n dX12_readCheese_73 rfl ?_
            refine tr_getR dX12_readCheese_74 fl12_188 (kR15 hS317.1 ta0) d2 ?_
            refine q_getI dX12_readCheese_77 fl12_224 (kR14 hS317.1 ta1) c318 ?_
            refine tr_iload_n dX12_readCheese_80 rfl ?_
            refine q_iast dX12_readCheese_81 (kR58 hS317.1 ta328) (ti_in (nR58 hS317.1 ta328) (by omega) (by omega)) hS317 ta328 (by show (0 : Int) ≤ v192.toInt ∧ v192.toInt ≤ (3 : Int); omega) rfl (by rfl) ?_
            intro I330 hS331 e333 f332
            have c334 : I330 a1 3 = v41 := (f332 _ _ (fun q => by have z := ta1; rw [q.1, ta328] at z; exact absurd z (by decide))).trans c318
            have c335 : I330 a0 13 = v234 := (f332 _ _ (fun q => by have z := ta0; rw [q.1, ta328] at z; exact absurd z (by decide))).trans c319
            have c336 : I330 a0 9 = v286 := (f332 _ _ (fun q => by have z := ta0; rw [q.1, ta328] at z; exact absurd z (by decide))).trans c320
            have c337 : I330 a0 10 = v289 := (f332 _ _ (fun q => by have z := ta0; rw [q.1, ta328] at z; exact absurd z (by decide))).trans c321
            have c338 : I330 a0 11 = v292 := (f332 _ _ (fun q => by have z := ta0; rw [q.1, ta328] at z; exact absurd z (by decide))).trans c322
            have c339 : I330 a0 12 = v296 := (f332 _ _ (fun q => by have z := ta0; rw [q.1, ta328] at z; exact absurd z (by decide))).trans c323
            have c340 : I330 a0 8 = v298 := (f332 _ _ (fun q => by have z := ta0; rw [q.1, ta328] at z; exact absurd z (by decide))).trans c324
            have hM341 : NmM I330 R0 L312 a1 (bdQ gB gQ 5 (tkN gB gs)) := NmM.kp1 hM327 f332 ta328 rfl rfl hS317.1 ta1
            refine tr_aload_n dX12_readCheese_82 rfl ?_
            refine tr_getR dX12_readCheese_83 fl12_188 (kR15 hS331.1 ta0) d2 ?_
            obtain ⟨a342, d343, ta342⟩ := rf14_19 hW0 ta1
            refine tr_getR dX12_readCheese_86 fl12_299 (kR14 hS331.1 ta1) d343 ?_
            refine tr_aload_n dX12_readCheese_89 rfl ?_
            refine tr_getR dX12_readCheese_90 fl12_188 (kR15 hS331.1 ta0) d2 ?_
            refine q_getI dX12_readCheese_93 fl12_224 (kR14 hS331.1 ta1) c334 ?_
            refine tr_iload dX12_readCheese_96 rfl ?_
            refine q_zast dX12_readCheese_98 (kR62 hS331.1 ta342) (ti_in (nR62 hS331.1 ta342) (by omega) (by omega)) hS331 ta342 (by omega) rfl rfl (by rfl) ?_
            intro I344 hS345 f346
            have c348 : I344 a1 3 = v41 := (f346 _ _ (fun q => by have z := ta1; rw [q.1, ta342] at z; exact absurd z (by decide))).trans c334
            have c349 : I344 a0 13 = v234 := (f346 _ _ (fun q => by have z := ta0; rw [q.1, ta342] at z; exact absurd z (by decide))).trans c335
            have c350 : I344 a0 9 = v286 := (f346 _ _ (fun q => by have z := ta0; rw [q.1, ta342] at z; exact absurd z (by decide))).trans c336
            have c351 : I344 a0 10 = v289 := (f346 _ _ (fun q => by have z := ta0; rw [q.1, ta342] at z; exact absurd z (by decide))).trans c337
            have c352 : I344 a0 11 = v292 := (f346 _ _ (fun q => by have z := ta0; rw [q.1, ta342] at z; exact absurd z (by decide))).trans c338
            have c353 : I344 a0 12 = v296 := (f346 _ _ (fun q => by have z := ta0; rw [q.1, ta342] at z; exact absurd z (by decide))).trans c339
            have c354 : I344 a0 8 = v298 := (f346 _ _ (fun q => by have z := ta0; rw [q.1, ta342] at z; exact absurd z (by decide))).trans c340
            have hM355 : NmM I344 R0 L312 a1 (bdQ gB gQ 5 (tkN gB gs)) := NmM.kp1 hM341 f346 ta342 rfl rfl hS331.1 ta1
            refine tr_aload_n dX12_readCheese_99 rfl ?_
            refine tr_getR dX12_readCheese_100 fl12_188 (kR15 hS345.1 ta0) d2 ?_
            refine tr_dup dX12_readCheese_103 rfl ?_
            refine q_getI dX12_readCheese_104 fl12_224 (kR14 hS345.1 ta1) c348 ?_
            refine q_iconst dX12_readCheese_107 (by decide) ?_
            intro v356 h357
            refine q_iaddE dX12_readCheese_108 (by intros; omega) ?_
            intro v358 h359
            refine q_putX dX12_readCheese_109 fl12_224 (kR14 hS345.1 ta1) (Or.inl rfl) hS345 ta1 (by decide +kernel) (hS345.1.putN (d' := 0) ta0 d2 (Or.inr (Or.inl rfl)) (by rw [c348]; omega) (by decide) (by show (0 : Int) ≤ v358.toInt ∧ v358.toInt ≤ (8 : Int); omega)) ?_
            intro I360 hS361 e362 f363
            have c364 : I360 a0 13 = v234 := (f363 _ _ (fun q => absurd q.2 (by decide))).trans c349
            have c365 : I360 a0 9 = v286 := (f363 _ _ (fun q => absurd q.2 (by decide))).trans c350
            have c366 : I360 a0 10 = v289 := (f363 _ _ (fun q => absurd q.2 (by decide))).trans c351
            have c367 : I360 a0 11 = v292 := (f363 _ _ (fun q => absurd q.2 (by decide))).trans c352
            have c368 : I360 a0 12 = v296 := (f363 _ _ (fun q => absurd q.2 (by decide))).trans c353
            have c369 : I360 a0 8 = v298 := (f363 _ _ (fun q => absurd q.2 (by decide))).trans c354
            have hM370 : NmM I360 R0 L312 a1 (bdQ gB gQ 5 (tkN gB gs)) := NmM.kp1 hM355 f363 ta1 rfl rfl hS345.1 ta1
            have eF := hF.eq
            have eP := hP.eq
            have es371 : chS gB gQ (tkN gB gs) = (tkN gB (tkN gB (tkN gB (tkN gB (tkN gB gs))))) := by simp only [chS, ↓reduceIte]; repeat' (first | split | omega)
            obtain ⟨v372, c373⟩ : ∃ v, I360 a0 14 = v := ⟨_, rfl⟩
            exact tr_vret hZ dX12_readCheese_112 rfl (by decide) (by decide) ⟨rfl, rfl, rfl, rfl, rfl, hS361, (Or.inl ⟨(by (try rw [w119]); (try rw [es371]); first | done | omega), (fun q0 z0 => by obtain rfl := Option.some.inj ((d2).symm.trans z0); (try rw [w119]); (try rw [es371]); (try rw [((hS361.cell ta1 (by decide +kernel)).trans c30)]); first | done | omega), (fun q0 z0 => by obtain rfl := Option.some.inj ((d2).symm.trans z0); (try rw [w119]); (try rw [es371]); (try rw [((hS361.cell ta1 (by decide +kernel)).trans c34)]); first | done | omega), (fun q0 z0 => by obtain rfl := Option.some.inj ((d2).symm.trans z0); (try rw [w119]); (try rw [es371]); (try rw [((hS361.cell ta1 (by decide +kernel)).trans c38)]); first | done | omega), (fun q0 z0 => by obtain rfl := Option.some.inj ((d2).symm.trans z0); (try rw [w119]); (try rw [es371]); (try rw [e362]); first | done | omega), (fun q0 z0 => by obtain rfl := Option.some.inj ((d2).symm.trans z0); (try rw [w119]); (try rw [es371]); (try rw [((hS361.cell ta1 (by decide +kernel)).trans c46)]); first | done | omega), (fun q0 z0 => by obtain rfl := Option.some.inj ((d2).symm.trans z0); (try rw [w119]); (try rw [es371]); (try rw [((hS361.cell ta1 (by decide +kernel)).trans c50)]); first | done | omega), (fun q0 z0 => by obtain rfl := Option.some.inj ((d2).symm.trans z0); (try rw [w119]); (try rw [es371]); (try rw [((hS361.cell ta1 (by decide +kernel)).trans c54)]); first | done | omega), (fun q0 z0 => by obtain rfl := Option.some.inj ((d2).symm.trans z0); (try rw [w119]); (try rw [es371]); (try rw [((hS361.cell ta1 (by decide +kernel)).trans c58)]); first | done | omega), (by (try rw [w119]); (try rw [es371]); (try rw [c364]); (try rw [c65]); first | done | omega), (by (try rw [w119]); (try rw [es371]); (try rw [c365]); first | done | omega), (by (try rw [w119]); (try rw [es371]); (try rw [c365]); first | done | omega), (by (try rw [w119]); (try rw [es371]); (try rw [c366]); first | done | omega), (by (try rw [w119]); (try rw [es371]); (try rw [c367]); first | done | omega), (by (try rw [w119]); (try rw [es371]); (try rw [c326]); first | done | assumption), (by (try rw [w119]); (try rw [es371]); (try rw [c368]); first | done | assumption), (by (try rw [w119]); (try rw [es371]); (try rw [c369]); first | done | assumption), hL325, (fun b hb => (Option.some.inj (d2.symm.trans hb)) ▸ NmM.ln hM370 (by omega)), trivial⟩), trivial⟩
          · skip
            exfalso; omega
        · skip
          rw [c262] at p278
          rw [c235] at p278
          obtain ⟨v374, c375⟩ : ∃ v, I251 a0 9 = v := ⟨_, rfl⟩
          have b376 := iv15_9 hS260.1 ta0 c375
          rw [c375] at p279
          rw [c375] at p280
          obtain ⟨v377, c378⟩ : ∃ v, I251 a0 10 = v := ⟨_, rfl⟩
          have b379 := iv15_10 hS260.1 ta0 c378
          rw [c378] at p281
          obtain ⟨v380, c381⟩ : ∃ v, I251 a0 11 = v := ⟨_, rfl⟩
          rw [c381] at p282
          obtain ⟨y382, c383⟩ : ∃ v, L253 a0 15 = v := ⟨_, rfl⟩
          rw [c383] at p283
          obtain ⟨v384, c385⟩ : ∃ v, I251 a0 12 = v := ⟨_, rfl⟩
          rw [c385] at p284
          obtain ⟨v386, c387⟩ : ∃ v, I251 a0 8 = v := ⟨_, rfl⟩
          have b388 := iv15_8 hS260.1 ta0 c387
          rw [c387] at p285
          refine tr_istore dX12_readCheese_42 (by decide) (by decide) ?_
          refine tr_aload_n dX12_readCheese_44 rfl ?_
          refine q_getI dX12_readCheese_45 fl12_99 (kR15 hS260.1 ta0) c375 ?_
          refine q_iconst dX12_readCheese_48 (by decide) ?_
          intro v389 h390
          refine q_icmp_ne 53 dX12_readCheese_49 (by decide) (fun h391 => ?_) (fun h391 => ?_)
          · skip
            refine tr_aload_n dX12_readCheese_53 rfl ?_
            refine tr_lload_n dX12_readCheese_54 rfl ?_
            refine q_iconst dX12_readCheese_55 (by decide) ?_
            intro v392 h393
            refine tr_aload_n dX12_readCheese_56 rfl ?_
            refine tr_getR dX12_readCheese_57 fl12_188 (kR15 hS260.1 ta0) d2 ?_
            refine q_getI dX12_readCheese_60 fl12_224 (kR14 hS260.1 ta1) c261 ?_
            obtain ⟨v395, c396⟩ : ∃ v, I251 a1 7 = v := ⟨_, rfl⟩
            have b397 := iv14_7 hS260.1 ta1 c396
            have p394 := hS260.1.2.2.2.2.1 a0 ta0 _ d2
            rw [c396, c261, ((hS260.cell ta1 (by decide +kernel)).trans c46)] at p394
            refine q_callVv hE (M' := mX12_names) (as := [_, _, _]) dX12_readCheese_63 lk12_293 inX12_names seX12_names myX12_names (by decide) ⟨by decide, by decide⟩ rfl (kR15 hS260.1 ta0) (Nat.le_of_ble_eq_true rfl) rfl rfl (by decide) (by decide) (fk_X12_names hS260.1  ta0 (fun q0 z0 => by obtain rfl := Option.some.inj ((d2).symm.trans z0); (try rw [c396]); first | done | omega) ⟨_, d2⟩) ?_
            rintro cn' K' N' I398 R399 L400 ⟨rfl, rfl, rfl, rfl, g401, gl402, rp404, -⟩
            have hS405 := hS260.tr g401 (by decide +kernel) (by decide +kernel)
            have c406 : I398 a1 3 = v41 := (g401.cell ta1 (by decide +kernel)).trans c261
            have c407 : I398 a0 13 = v234 := (g401.cell ta0 (by decide +kernel)).trans c262
            have c408 : I398 a0 9 = v374 := (g401.cell ta0 (by decide +kernel)).trans c375
            have c409 : I398 a0 10 = v377 := (g401.cell ta0 (by decide +kernel)).trans c378
            have c410 : I398 a0 11 = v380 := (g401.cell ta0 (by decide +kernel)).trans c381
            have c411 : I398 a0 12 = v384 := (g401.cell ta0 (by decide +kernel)).trans c385
            have c412 : I398 a0 8 = v386 := (g401.cell ta0 (by decide +kernel)).trans c387
            have hL413 := hL263.tr gl402 (by decide +kernel)
            have c414 : L400 a0 15 = y382 := (gl402.cell ta0 (by decide +kernel)).trans c383
            have hM415 := NmM.up5 (B := gB) (s := (tkN gB gs)) hM264 (rp404 _ d2) (by omega) (by omega) (by rw [c396]; omega) (by omega) (by omega)
            refine tr_aload_n dX12_readCheese_66 rfl ?_
            refine tr_getR dX12_readCheese_67 fl12_188 (kR15 hS405.1 ta0) d2 ?_
            obtain ⟨a416, d417, ta416⟩ := rf14_15 hW0 ta1
            refine tr_getR dX12_readCheese_70 fl12_296 (kR14 hS405.1 ta1) d417 ?_
            refine tr_aload_n dX12_readCheese_73 rfl ?_
            refine tr_getR dX12_readCheese_74 fl12_188 (kR15 hS405.1 ta0) d2 ?_
            refine q_getI dX12_readCheese_77 fl12_224 (kR14 hS405.1 ta1) c406 ?_
            refine tr_iload_n dX12_readCheese_80 rfl ?_
            refine q_iast dX12_readCheese_81 (kR58 hS405.1 ta416) (ti_in (nR58 hS405.1 ta416) (by omega) (by omega)) hS405 ta416 (by show (0 : Int) ≤ v192.toInt ∧ v192.toInt ≤ (3 : Int); omega) rfl (by rfl) ?_
            intro I418 hS419 e421 f420
            have c422 : I418 a1 3 = v41 := (f420 _ _ (fun q => by have z := ta1; rw [q.1, ta416] at z; exact absurd z (by decide))).trans c406
            have c423 : I418 a0 13 = v234 := (f420 _ _ (fun q => by have z := ta0; rw [q.1, ta416] at z; exact absurd z (by decide))).trans c407
            have c424 : I418 a0 9 = v374 := (f420 _ _ (fun q => by have z := ta0; rw [q.1, ta416] at z; exact absurd z (by decide))).trans c408
            have c425 : I418 a0 10 = v377 := (f420 _ _ (fun q => by have z := ta0; rw [q.1, ta416] at z; exact absurd z (by decide))).trans c409
            have c426 : I418 a0 11 = v380 := (f420 _ _ (fun q => by have z := ta0; rw [q.1, ta416] at z; exact absurd z (by decide))).trans c410
            have c427 : I418 a0 12 = v384 := (f420 _ _ (fun q => by have z := ta0; rw [q.1, ta416] at z; exact absurd z (by decide))).trans c411
            have c428 : I418 a0 8 = v386 := (f420 _ _ (fun q => by have z := ta0; rw [q.1, ta416] at z; exact absurd z (by decide))).trans c412
            have hM429 : NmM I418 R0 L400 a1 (bdQ gB gQ 5 (tkN gB gs)) := NmM.kp1 hM415 f420 ta416 rfl rfl hS405.1 ta1
            refine tr_aload_n dX12_readCheese_82 rfl ?_
            refine tr_getR dX12_readCheese_83 fl12_188 (kR15 hS419.1 ta0) d2 ?_
            obtain ⟨a430, d431, ta430⟩ := rf14_19 hW0 ta1
            refine tr_getR dX12_readCheese_86 fl12_299 (kR14 hS419.1 ta1) d431 ?_
            refine tr_aload_n dX12_readCheese_89 rfl ?_
            refine tr_getR dX12_readCheese_90 fl12_188 (kR15 hS419.1 ta0) d2 ?_
            refine q_getI dX12_readCheese_93 fl12_224 (kR14 hS419.1 ta1) c422 ?_
            refine tr_iload dX12_readCheese_96 rfl ?_
            refine q_zast dX12_readCheese_98 (kR62 hS419.1 ta430) (ti_in (nR62 hS419.1 ta430) (by omega) (by omega)) hS419 ta430 (by omega) rfl rfl (by rfl) ?_
            intro I432 hS433 f434
            have c436 : I432 a1 3 = v41 := (f434 _ _ (fun q => by have z := ta1; rw [q.1, ta430] at z; exact absurd z (by decide))).trans c422
            have c437 : I432 a0 13 = v234 := (f434 _ _ (fun q => by have z := ta0; rw [q.1, ta430] at z; exact absurd z (by decide))).trans c423
            have c438 : I432 a0 9 = v374 := (f434 _ _ (fun q => by have z := ta0; rw [q.1, ta430] at z; exact absurd z (by decide))).trans c424
            have c439 : I432 a0 10 = v377 := (f434 _ _ (fun q => by have z := ta0; rw [q.1, ta430] at z; exact absurd z (by decide))).trans c425
            have c440 : I432 a0 11 = v380 := (f434 _ _ (fun q => by have z := ta0; rw [q.1, ta430] at z; exact absurd z (by decide))).trans c426
            have c441 : I432 a0 12 = v384 := (f434 _ _ (fun q => by have z := ta0; rw [q.1, ta430] at z; exact absurd z (by decide))).trans c427
            have c442 : I432 a0 8 = v386 := (f434 _ _ (fun q => by have z := ta0; rw [q.1, ta430] at z; exact absurd z (by decide))).trans c428
            have hM443 : NmM I432 R0 L400 a1 (bdQ gB gQ 5 (tkN gB gs)) := NmM.kp1 hM429 f434 ta430 rfl rfl hS419.1 ta1
            refine tr_aload_n dX12_readCheese_99 rfl ?_
            refine tr_getR dX12_readCheese_100 fl12_188 (kR15 hS433.1 ta0) d2 ?_
            refine tr_dup dX12_readCheese_103 rfl ?_
            refine q_getI dX12_readCheese_104 fl12_224 (kR14 hS433.1 ta1) c436 ?_
            refine q_iconst dX12_readCheese_107 (by decide) ?_
            intro v444 h445
            refine q_iaddE dX12_readCheese_108 (by intros; omega) ?_
            intro v446 h447
            refine q_putX dX12_readCheese_109 fl12_224 (kR14 hS433.1 ta1) (Or.inl rfl) hS433 ta1 (by decide +kernel) (hS433.1.putN (d' := 0) ta0 d2 (Or.inr (Or.inl rfl)) (by rw [c436]; omega) (by decide) (by show (0 : Int) ≤ v446.toInt ∧ v446.toInt ≤ (8 : Int); omega)) ?_
            intro I448 hS449 e450 f451
            have c452 : I448 a0 13 = v234 := (f451 _ _ (fun q => absurd q.2 (by decide))).trans c437
            have c453 : I448 a0 9 = v374 := (f451 _ _ (fun q => absurd q.2 (by decide))).trans c438
            have c454 : I448 a0 10 = v377 := (f451 _ _ (fun q => absurd q.2 (by decide))).trans c439
            have c455 : I448 a0 11 = v380 := (f451 _ _ (fun q => absurd q.2 (by decide))).trans c440
            have c456 : I448 a0 12 = v384 := (f451 _ _ (fun q => absurd q.2 (by decide))).trans c441
            have c457 : I448 a0 8 = v386 := (f451 _ _ (fun q => absurd q.2 (by decide))).trans c442
            have hM458 : NmM I448 R0 L400 a1 (bdQ gB gQ 5 (tkN gB gs)) := NmM.kp1 hM443 f451 ta1 rfl rfl hS433.1 ta1
            have eF := hF.eq
            have eP := hP.eq
            have p460 := p277
            unfold NotW at p460
            have es459 : chS gB gQ (tkN gB gs) = (tkN gB (tkN gB (tkN gB (tkN gB gs)))) := by simp only [chS, ↓reduceIte]; repeat' (first | split | omega)
            obtain ⟨v461, c462⟩ : ∃ v, I448 a0 14 = v := ⟨_, rfl⟩
            exact tr_vret hZ dX12_readCheese_112 rfl (by decide) (by decide) ⟨rfl, rfl, rfl, rfl, rfl, hS449, (Or.inl ⟨(by (try rw [w119]); (try rw [es459]); first | done | omega), (fun q0 z0 => by obtain rfl := Option.some.inj ((d2).symm.trans z0); (try rw [w119]); (try rw [es459]); (try rw [((hS449.cell ta1 (by decide +kernel)).trans c30)]); first | done | omega), (fun q0 z0 => by obtain rfl := Option.some.inj ((d2).symm.trans z0); (try rw [w119]); (try rw [es459]); (try rw [((hS449.cell ta1 (by decide +kernel)).trans c34)]); first | done | omega), (fun q0 z0 => by obtain rfl := Option.some.inj ((d2).symm.trans z0); (try rw [w119]); (try rw [es459]); (try rw [((hS449.cell ta1 (by decide +kernel)).trans c38)]); first | done | omega), (fun q0 z0 => by obtain rfl := Option.some.inj ((d2).symm.trans z0); (try rw [w119]); (try rw [es459]); (try rw [e450]); first | done | omega), (fun q0 z0 => by obtain rfl := Option.some.inj ((d2).symm.trans z0); (try rw [w119]); (try rw [es459]); (try rw [((hS449.cell ta1 (by decide +kernel)).trans c46)]); first | done | omega), (fun q0 z0 => by obtain rfl := Option.some.inj ((d2).symm.trans z0); (try rw [w119]); (try rw [es459]); (try rw [((hS449.cell ta1 (by decide +kernel)).trans c50)]); first | done | omega), (fun q0 z0 => by obtain rfl := Option.some.inj ((d2).symm.trans z0); (try rw [w119]); (try rw [es459]); (try rw [((hS449.cell ta1 (by decide +kernel)).trans c54)]); first | done | omega), (fun q0 z0 => by obtain rfl := Option.some.inj ((d2).symm.trans z0); (try rw [w119]); (try rw [es459]); (try rw [((hS449.cell ta1 (by decide +kernel)).trans c58)]); first | done | omega), (by (try rw [w119]); (try rw [es459]); (try rw [c452]); (try rw [c65]); first | done | omega), (by (try rw [w119]); (try rw [es459]); (try rw [c453]); first | done | omega), (by (try rw [w119]); (try rw [es459]); (try rw [c453]); first | done | omega), (by (try rw [w119]); (try rw [es459]); (try rw [c454]); first | done | omega), (by (try rw [w119]); (try rw [es459]); (try rw [c455]); first | done | omega), (by (try rw [w119]); (try rw [es459]); (try rw [c414]); first | done | assumption), (by (try rw [w119]); (try rw [es459]); (try rw [c456]); first | done | assumption), (by (try rw [w119]); (try rw [es459]); (try rw [c457]); first | done | assumption), hL413, (fun b hb => (Option.some.inj (d2.symm.trans hb)) ▸ NmM.ln hM458 (by omega)), trivial⟩), trivial⟩
          · skip
            exfalso; omega
      · skip
        obtain ⟨v463, c464⟩ : ∃ v, I187 a0 9 = v := ⟨_, rfl⟩
        have b465 := iv15_9 hS195.1 ta0 c464
        rw [c464] at p214
        obtain ⟨v466, c467⟩ : ∃ v, I187 a0 13 = v := ⟨_, rfl⟩
        rw [c467] at p215
        obtain ⟨v468, c469⟩ : ∃ v, I187 a0 14 = v := ⟨_, rfl⟩
        rw [c469] at p216
        replace hF := hF.pos (by omega)
        replace hP := hP.pos (by omega)
        refine tr_istore_n dX12_readCheese_35 (by decide) (by decide) ?_
        refine tr_aload_n dX12_readCheese_36 rfl ?_
        refine tr_ldcS dX12_readCheese_37 ld12_186 ?_
        refine q_callVi hE (M' := mX12_eatsWord) (as := [_]) dX12_readCheese_39 lk12_290 inX12_eatsWord seX12_eatsWord myX12_eatsWord (by decide) ⟨by decide, by decide⟩ rfl (kR15 hS195.1 ta0) (Nat.le_of_ble_eq_true rfl) rfl rfl (by decide) (by decide) (k_X12_eatsWord hS195.1 ta0 (by decide)) ?_
        rintro v474 cn' K' N' I470 R471 L472 ⟨rfl, rfl, rfl, rfl, g473, h475, w476, -⟩
        have hS477 := hS195.tr g473 (by decide +kernel) (by decide +kernel)
        have c478 : I470 a1 3 = v41 := (g473.cell ta1 (by decide +kernel)).trans c196
        have c479 : I470 a0 13 = v466 := (g473.cell ta0 (by decide +kernel)).trans c467
        have c480 : I470 a0 14 = v468 := (g473.cell ta0 (by decide +kernel)).trans c469
        have ov481 := w476.over (by rw [c464]; omega)
        obtain ⟨v482, c483⟩ : ∃ v, I470 a0 9 = v := ⟨_, rfl⟩
        have b484 := iv15_9 hS477.1 ta0 c483
        obtain ⟨v485, c486⟩ : ∃ v, I470 a0 13 = v := ⟨_, rfl⟩
        obtain ⟨v487, c488⟩ : ∃ v, I470 a0 14 = v := ⟨_, rfl⟩
        (try rw [c483] at ov481)
        (try rw [c486] at ov481)
        (try rw [c488] at ov481)
        (try rw [c464] at ov481)
        (try rw [c467] at ov481)
        (try rw [c469] at ov481)
        refine tr_istore dX12_readCheese_42 (by decide) (by decide) ?_
        refine tr_aload_n dX12_readCheese_44 rfl ?_
        refine q_getI dX12_readCheese_45 fl12_99 (kR15 hS477.1 ta0) c483 ?_
        refine q_iconst dX12_readCheese_48 (by decide) ?_
        intro v489 h490
        refine q_icmp_ne 53 dX12_readCheese_49 (by decide) (fun h491 => ?_) (fun h491 => ?_)
        · skip
          exfalso; omega
        · skip
          have eF := hF.eq
          have eP := hP.eq
          obtain ⟨v492, c493⟩ : ∃ v, I470 a0 10 = v := ⟨_, rfl⟩
          have b494 := iv15_10 hS477.1 ta0 c493
          obtain ⟨v495, c496⟩ : ∃ v, I470 a0 11 = v := ⟨_, rfl⟩
          obtain ⟨y497, c498⟩ : ∃ v, L472 a0 15 = v := ⟨_, rfl⟩
          obtain ⟨v499, c500⟩ : ∃ v, I470 a0 12 = v := ⟨_, rfl⟩
          obtain ⟨v501, c502⟩ : ∃ v, I470 a0 8 = v := ⟨_, rfl⟩
          have b503 := iv15_8 hS477.1 ta0 c502
          exact tr_vret hZ dX12_readCheese_52 rfl (by decide) (by decide) ⟨rfl, rfl, rfl, rfl, rfl, hS477, (Or.inr (⟨(by (try rw [w119]); first | done | omega), (by (try rw [w119]); (try rw [c483]); first | done | omega), (by (try rw [w119]); (try rw [c486]); first | done | omega), (by (try rw [w119]); (try rw [c488]); first | done | omega), trivial⟩)), trivial⟩
      · skip
        obtain ⟨v504, c505⟩ : ∃ v, I187 a0 9 = v := ⟨_, rfl⟩
        have b506 := iv15_9 hS195.1 ta0 c505
        rw [c505] at p221
        obtain ⟨v507, c508⟩ : ∃ v, I187 a0 13 = v := ⟨_, rfl⟩
        rw [c508] at p222
        obtain ⟨v509, c510⟩ : ∃ v, I187 a0 14 = v := ⟨_, rfl⟩
        rw [c510] at p223
        replace hF := hF.neg (by omega)
        replace hP := hP.neg (by omega)
        replace hF := hF.pos (by omega)
        replace hP := hP.pos (by omega)
        refine tr_istore_n dX12_readCheese_35 (by decide) (by decide) ?_
        refine tr_aload_n dX12_readCheese_36 rfl ?_
        refine tr_ldcS dX12_readCheese_37 ld12_186 ?_
        refine q_callVi hE (M' := mX12_eatsWord) (as := [_]) dX12_readCheese_39 lk12_290 inX12_eatsWord seX12_eatsWord myX12_eatsWord (by decide) ⟨by decide, by decide⟩ rfl (kR15 hS195.1 ta0) (Nat.le_of_ble_eq_true rfl) rfl rfl (by decide) (by decide) (k_X12_eatsWord hS195.1 ta0 (by decide)) ?_
        rintro v515 cn' K' N' I511 R512 L513 ⟨rfl, rfl, rfl, rfl, g514, h516, w517, -⟩
        have hS518 := hS195.tr g514 (by decide +kernel) (by decide +kernel)
        have c519 : I511 a1 3 = v41 := (g514.cell ta1 (by decide +kernel)).trans c196
        have c520 : I511 a0 13 = v507 := (g514.cell ta0 (by decide +kernel)).trans c508
        have c521 : I511 a0 14 = v509 := (g514.cell ta0 (by decide +kernel)).trans c510
        have ov522 := w517.over (by rw [c505]; omega)
        obtain ⟨v523, c524⟩ : ∃ v, I511 a0 9 = v := ⟨_, rfl⟩
        have b525 := iv15_9 hS518.1 ta0 c524
        obtain ⟨v526, c527⟩ : ∃ v, I511 a0 13 = v := ⟨_, rfl⟩
        obtain ⟨v528, c529⟩ : ∃ v, I511 a0 14 = v := ⟨_, rfl⟩
        (try rw [c524] at ov522)
        (try rw [c527] at ov522)
        (try rw [c529] at ov522)
        (try rw [c505] at ov522)
        (try rw [c508] at ov522)
        (try rw [c510] at ov522)
        refine tr_istore dX12_readCheese_42 (by decide) (by decide) ?_
        refine tr_aload_n dX12_readCheese_44 rfl ?_
        refine q_getI dX12_readCheese_45 fl12_99 (kR15 hS518.1 ta0) c524 ?_
        refine q_iconst dX12_readCheese_48 (by decide) ?_
        intro v530 h531
        refine q_icmp_ne 53 dX12_readCheese_49 (by decide) (fun h532 => ?_) (fun h532 => ?_)
        · skip
          exfalso; omega
        · skip
          have eF := hF.eq
          have eP := hP.eq
          obtain ⟨v533, c534⟩ : ∃ v, I511 a0 10 = v := ⟨_, rfl⟩
          have b535 := iv15_10 hS518.1 ta0 c534
          obtain ⟨v536, c537⟩ : ∃ v, I511 a0 11 = v := ⟨_, rfl⟩
          obtain ⟨y538, c539⟩ : ∃ v, L513 a0 15 = v := ⟨_, rfl⟩
          obtain ⟨v540, c541⟩ : ∃ v, I511 a0 12 = v := ⟨_, rfl⟩
          obtain ⟨v542, c543⟩ : ∃ v, I511 a0 8 = v := ⟨_, rfl⟩
          have b544 := iv15_8 hS518.1 ta0 c543
          exact tr_vret hZ dX12_readCheese_52 rfl (by decide) (by decide) ⟨rfl, rfl, rfl, rfl, rfl, hS518, (Or.inr (⟨(by (try rw [w119]); first | done | omega), (by (try rw [w119]); (try rw [c524]); first | done | omega), (by (try rw [w119]); (try rw [c527]); first | done | omega), (by (try rw [w119]); (try rw [c529]); first | done | omega), trivial⟩)), trivial⟩
      · skip
        obtain ⟨v545, c546⟩ : ∃ v, I187 a0 9 = v := ⟨_, rfl⟩
        have b547 := iv15_9 hS195.1 ta0 c546
        rw [c546] at p229
        obtain ⟨v548, c549⟩ : ∃ v, I187 a0 13 = v := ⟨_, rfl⟩
        rw [c549] at p230
        obtain ⟨v550, c551⟩ : ∃ v, I187 a0 14 = v := ⟨_, rfl⟩
        rw [c551] at p231
        replace hF := hF.neg (by omega)
        replace hP := hP.neg (by omega)
        replace hF := hF.neg (by omega)
        replace hP := hP.neg (by omega)
        replace hF := hF.pos (by omega)
        replace hP := hP.pos (by omega)
        refine tr_istore_n dX12_readCheese_35 (by decide) (by decide) ?_
        refine tr_aload_n dX12_readCheese_36 rfl ?_
        refine tr_ldcS dX12_readCheese_37 ld12_186 ?_
        refine q_callVi hE (M' := mX12_eatsWord) (as := [_]) dX12_readCheese_39 lk12_290 inX12_eatsWord seX12_eatsWord myX12_eatsWord (by decide) ⟨by decide, by decide⟩ rfl (kR15 hS195.1 ta0) (Nat.le_of_ble_eq_true rfl) rfl rfl (by decide) (by decide) (k_X12_eatsWord hS195.1 ta0 (by decide)) ?_
        rintro v556 cn' K' N' I552 R553 L554 ⟨rfl, rfl, rfl, rfl, g555, h557, w558, -⟩
        have hS559 := hS195.tr g555 (by decide +kernel) (by decide +kernel)
        have c560 : I552 a1 3 = v41 := (g555.cell ta1 (by decide +kernel)).trans c196
        have c561 : I552 a0 13 = v548 := (g555.cell ta0 (by decide +kernel)).trans c549
        have c562 : I552 a0 14 = v550 := (g555.cell ta0 (by decide +kernel)).trans c551
        have ov563 := w558.over (by rw [c546]; omega)
        obtain ⟨v564, c565⟩ : ∃ v, I552 a0 9 = v := ⟨_, rfl⟩
        have b566 := iv15_9 hS559.1 ta0 c565
        obtain ⟨v567, c568⟩ : ∃ v, I552 a0 13 = v := ⟨_, rfl⟩
        obtain ⟨v569, c570⟩ : ∃ v, I552 a0 14 = v := ⟨_, rfl⟩
        (try rw [c565] at ov563)
        (try rw [c568] at ov563)
        (try rw [c570] at ov563)
        (try rw [c546] at ov563)
        (try rw [c549] at ov563)
        (try rw [c551] at ov563)
        refine tr_istore dX12_readCheese_42 (by decide) (by decide) ?_
        refine tr_aload_n dX12_readCheese_44 rfl ?_
        refine q_getI dX12_readCheese_45 fl12_99 (kR15 hS559.1 ta0) c565 ?_
        refine q_iconst dX12_readCheese_48 (by decide) ?_
        intro v571 h572
        refine q_icmp_ne 53 dX12_readCheese_49 (by decide) (fun h573 => ?_) (fun h573 => ?_)
        · skip
          exfalso; omega
        · skip
          have eF := hF.eq
          have eP := hP.eq
          obtain ⟨v574, c575⟩ : ∃ v, I552 a0 10 = v := ⟨_, rfl⟩
          have b576 := iv15_10 hS559.1 ta0 c575
          obtain ⟨v577, c578⟩ : ∃ v, I552 a0 11 = v := ⟨_, rfl⟩
          obtain ⟨y579, c580⟩ : ∃ v, L554 a0 15 = v := ⟨_, rfl⟩
          obtain ⟨v581, c582⟩ : ∃ v, I552 a0 12 = v := ⟨_, rfl⟩
          obtain ⟨v583, c584⟩ : ∃ v, I552 a0 8 = v := ⟨_, rfl⟩
          have b585 := iv15_8 hS559.1 ta0 c584
          exact tr_vret hZ dX12_readCheese_52 rfl (by decide) (by decide) ⟨rfl, rfl, rfl, rfl, rfl, hS559, (Or.inr (⟨(by (try rw [w119]); first | done | omega), (by (try rw [w119]); (try rw [c565]); first | done | omega), (by (try rw [w119]); (try rw [c568]); first | done | omega), (by (try rw [w119]); (try rw [c570]); first | done | omega), trivial⟩)), trivial⟩
    · skip
      obtain ⟨v586, c587⟩ : ∃ v, I129 a0 9 = v := ⟨_, rfl⟩
      have b588 := iv15_9 hS137.1 ta0 c587
      rw [c587] at p154
      obtain ⟨v589, c590⟩ : ∃ v, I129 a0 13 = v := ⟨_, rfl⟩
      rw [c590] at p155
      obtain ⟨v591, c592⟩ : ∃ v, I129 a0 14 = v := ⟨_, rfl⟩
      rw [c592] at p156
      replace hF := hF.pos (by omega)
      replace hP := hP.pos (by omega)
      refine tr_lstore_n dX12_readCheese_17 (by decide) (by decide) (by decide) ?_
      refine tr_aload_n dX12_readCheese_18 rfl ?_
      refine tr_ldcwS dX12_readCheese_19 ld12_289 ?_
      refine q_iconst dX12_readCheese_22 (by decide) ?_
      intro v593 h594
      refine tr_aload_n dX12_readCheese_23 rfl ?_
      refine tr_getR dX12_readCheese_24 fl12_188 (kR15 hS137.1 ta0) d2 ?_
      refine q_getI dX12_readCheese_27 fl12_263 (kR14 hS137.1 ta1) ((hS137.cell ta1 (by decide +kernel)).trans c34) ?_
      refine q_iconst dX12_readCheese_30 (by decide) ?_
      intro v595 h596
      refine q_isubE dX12_readCheese_31 (by intros; omega) ?_
      intro v597 h598
      refine q_callVi hE (M' := mX12_readPart) (as := [_, _, _]) dX12_readCheese_32 lk12_249 inX12_readPart seX12_readPart myX12_readPart (by decide) ⟨by decide, by decide⟩ rfl (kR15 hS137.1 ta0) (Nat.le_of_ble_eq_true rfl) rfl rfl (by decide) (by decide) (k_X12_readPart hS137.1 ta0 (by decide)) ?_
      rintro v603 cn' K' N' I599 R600 L601 ⟨rfl, rfl, rfl, rfl, g602, p604, w605, -⟩
      have hS606 := hS137.tr g602 (by decide +kernel) (by decide +kernel)
      have c607 : I599 a1 3 = v41 := (g602.cell ta1 (by decide +kernel)).trans c138
      have b608 : 0 ≤ v603.toInt ∧ v603.toInt ≤ 3 := by omega
      clear p604
      have ov609 := w605.over (by rw [c587]; omega)
      obtain ⟨v610, c611⟩ : ∃ v, I599 a0 9 = v := ⟨_, rfl⟩
      have b612 := iv15_9 hS606.1 ta0 c611
      obtain ⟨v613, c614⟩ : ∃ v, I599 a0 13 = v := ⟨_, rfl⟩
      obtain ⟨v615, c616⟩ : ∃ v, I599 a0 14 = v := ⟨_, rfl⟩
      (try rw [c611] at ov609)
      (try rw [c614] at ov609)
      (try rw [c616] at ov609)
      (try rw [c587] at ov609)
      (try rw [c590] at ov609)
      (try rw [c592] at ov609)
      refine tr_istore_n dX12_readCheese_35 (by decide) (by decide) ?_
      refine tr_aload_n dX12_readCheese_36 rfl ?_
      refine tr_ldcS dX12_readCheese_37 ld12_186 ?_
      refine q_callVi hE (M' := mX12_eatsWord) (as := [_]) dX12_readCheese_39 lk12_290 inX12_eatsWord seX12_eatsWord myX12_eatsWord (by decide) ⟨by decide, by decide⟩ rfl (kR15 hS606.1 ta0) (Nat.le_of_ble_eq_true rfl) rfl rfl (by decide) (by decide) (k_X12_eatsWord hS606.1 ta0 (by decide)) ?_
      rintro v621 cn' K' N' I617 R618 L619 ⟨rfl, rfl, rfl, rfl, g620, h622, w623, -⟩
      have hS624 := hS606.tr g620 (by decide +kernel) (by decide +kernel)
      have c625 : I617 a1 3 = v41 := (g620.cell ta1 (by decide +kernel)).trans c607
      have c626 : I617 a0 13 = v613 := (g620.cell ta0 (by decide +kernel)).trans c614
      have c627 : I617 a0 14 = v615 := (g620.cell ta0 (by decide +kernel)).trans c616
      have ov628 := w623.over (by rw [c611]; omega)
      obtain ⟨v629, c630⟩ : ∃ v, I617 a0 9 = v := ⟨_, rfl⟩
      have b631 := iv15_9 hS624.1 ta0 c630
      obtain ⟨v632, c633⟩ : ∃ v, I617 a0 13 = v := ⟨_, rfl⟩
      obtain ⟨v634, c635⟩ : ∃ v, I617 a0 14 = v := ⟨_, rfl⟩
      (try rw [c630] at ov628)
      (try rw [c633] at ov628)
      (try rw [c635] at ov628)
      (try rw [c611] at ov628)
      (try rw [c614] at ov628)
      (try rw [c616] at ov628)
      refine tr_istore dX12_readCheese_42 (by decide) (by decide) ?_
      refine tr_aload_n dX12_readCheese_44 rfl ?_
      refine q_getI dX12_readCheese_45 fl12_99 (kR15 hS624.1 ta0) c630 ?_
      refine q_iconst dX12_readCheese_48 (by decide) ?_
      intro v636 h637
      refine q_icmp_ne 53 dX12_readCheese_49 (by decide) (fun h638 => ?_) (fun h638 => ?_)
      · skip
        exfalso; omega
      · skip
        have eF := hF.eq
        have eP := hP.eq
        obtain ⟨v639, c640⟩ : ∃ v, I617 a0 10 = v := ⟨_, rfl⟩
        have b641 := iv15_10 hS624.1 ta0 c640
        obtain ⟨v642, c643⟩ : ∃ v, I617 a0 11 = v := ⟨_, rfl⟩
        obtain ⟨y644, c645⟩ : ∃ v, L619 a0 15 = v := ⟨_, rfl⟩
        obtain ⟨v646, c647⟩ : ∃ v, I617 a0 12 = v := ⟨_, rfl⟩
        obtain ⟨v648, c649⟩ : ∃ v, I617 a0 8 = v := ⟨_, rfl⟩
        have b650 := iv15_8 hS624.1 ta0 c649
        exact tr_vret hZ dX12_readCheese_52 rfl (by decide) (by decide) ⟨rfl, rfl, rfl, rfl, rfl, hS624, (Or.inr (⟨(by (try rw [w119]); first | done | omega), (by (try rw [w119]); (try rw [c630]); first | done | omega), (by (try rw [w119]); (try rw [c633]); first | done | omega), (by (try rw [w119]); (try rw [c635]); first | done | omega), trivial⟩)), trivial⟩
    · skip
      obtain ⟨v651, c652⟩ : ∃ v, I129 a0 9 = v := ⟨_, rfl⟩
      have b653 := iv15_9 hS137.1 ta0 c652
      rw [c652] at p159
      obtain ⟨v654, c655⟩ : ∃ v, I129 a0 13 = v := ⟨_, rfl⟩
      rw [c655] at p160
      obtain ⟨v656, c657⟩ : ∃ v, I129 a0 14 = v := ⟨_, rfl⟩
      rw [c657] at p161
      replace hF := hF.neg (by omega)
      replace hP := hP.neg (by omega)
      replace hF := hF.pos (by omega)
      replace hP := hP.pos (by omega)
      refine tr_lstore_n dX12_readCheese_17 (by decide) (by decide) (by decide) ?_
      refine tr_aload_n dX12_readCheese_18 rfl ?_
      refine tr_ldcwS dX12_readCheese_19 ld12_289 ?_
      refine q_iconst dX12_readCheese_22 (by decide) ?_
      intro v658 h659
      refine tr_aload_n dX12_readCheese_23 rfl ?_
      refine tr_getR dX12_readCheese_24 fl12_188 (kR15 hS137.1 ta0) d2 ?_
      refine q_getI dX12_readCheese_27 fl12_263 (kR14 hS137.1 ta1) ((hS137.cell ta1 (by decide +kernel)).trans c34) ?_
      refine q_iconst dX12_readCheese_30 (by decide) ?_
      intro v660 h661
      refine q_isubE dX12_readCheese_31 (by intros; omega) ?_
      intro v662 h663
      refine q_callVi hE (M' := mX12_readPart) (as := [_, _, _]) dX12_readCheese_32 lk12_249 inX12_readPart seX12_readPart myX12_readPart (by decide) ⟨by decide, by decide⟩ rfl (kR15 hS137.1 ta0) (Nat.le_of_ble_eq_true rfl) rfl rfl (by decide) (by decide) (k_X12_readPart hS137.1 ta0 (by decide)) ?_
      rintro v668 cn' K' N' I664 R665 L666 ⟨rfl, rfl, rfl, rfl, g667, p669, w670, -⟩
      have hS671 := hS137.tr g667 (by decide +kernel) (by decide +kernel)
      have c672 : I664 a1 3 = v41 := (g667.cell ta1 (by decide +kernel)).trans c138
      have b673 : 0 ≤ v668.toInt ∧ v668.toInt ≤ 3 := by omega
      clear p669
      have ov674 := w670.over (by rw [c652]; omega)
      obtain ⟨v675, c676⟩ : ∃ v, I664 a0 9 = v := ⟨_, rfl⟩
      have b677 := iv15_9 hS671.1 ta0 c676
      obtain ⟨v678, c679⟩ : ∃ v, I664 a0 13 = v := ⟨_, rfl⟩
      obtain ⟨v680, c681⟩ : ∃ v, I664 a0 14 = v := ⟨_, rfl⟩
      (try rw [c676] at ov674)
      (try rw [c679] at ov674)
      (try rw [c681] at ov674)
      (try rw [c652] at ov674)
      (try rw [c655] at ov674)
      (try rw [c657] at ov674)
      refine tr_istore_n dX12_readCheese_35 (by decide) (by decide) ?_
      refine tr_aload_n dX12_readCheese_36 rfl ?_
      refine tr_ldcS dX12_readCheese_37 ld12_186 ?_
      refine q_callVi hE (M' := mX12_eatsWord) (as := [_]) dX12_readCheese_39 lk12_290 inX12_eatsWord seX12_eatsWord myX12_eatsWord (by decide) ⟨by decide, by decide⟩ rfl (kR15 hS671.1 ta0) (Nat.le_of_ble_eq_true rfl) rfl rfl (by decide) (by decide) (k_X12_eatsWord hS671.1 ta0 (by decide)) ?_
      rintro v686 cn' K' N' I682 R683 L684 ⟨rfl, rfl, rfl, rfl, g685, h687, w688, -⟩
      have hS689 := hS671.tr g685 (by decide +kernel) (by decide +kernel)
      have c690 : I682 a1 3 = v41 := (g685.cell ta1 (by decide +kernel)).trans c672
      have c691 : I682 a0 13 = v678 := (g685.cell ta0 (by decide +kernel)).trans c679
      have c692 : I682 a0 14 = v680 := (g685.cell ta0 (by decide +kernel)).trans c681
      have ov693 := w688.over (by rw [c676]; omega)
      obtain ⟨v694, c695⟩ : ∃ v, I682 a0 9 = v := ⟨_, rfl⟩
      have b696 := iv15_9 hS689.1 ta0 c695
      obtain ⟨v697, c698⟩ : ∃ v, I682 a0 13 = v := ⟨_, rfl⟩
      obtain ⟨v699, c700⟩ : ∃ v, I682 a0 14 = v := ⟨_, rfl⟩
      (try rw [c695] at ov693)
      (try rw [c698] at ov693)
      (try rw [c700] at ov693)
      (try rw [c676] at ov693)
      (try rw [c679] at ov693)
      (try rw [c681] at ov693)
      refine tr_istore dX12_readCheese_42 (by decide) (by decide) ?_
      refine tr_aload_n dX12_readCheese_44 rfl ?_
      refine q_getI dX12_readCheese_45 fl12_99 (kR15 hS689.1 ta0) c695 ?_
      refine q_iconst dX12_readCheese_48 (by decide) ?_
      intro v701 h702
      refine q_icmp_ne 53 dX12_readCheese_49 (by decide) (fun h703 => ?_) (fun h703 => ?_)
      · skip
        exfalso; omega
      · skip
        have eF := hF.eq
        have eP := hP.eq
        obtain ⟨v704, c705⟩ : ∃ v, I682 a0 10 = v := ⟨_, rfl⟩
        have b706 := iv15_10 hS689.1 ta0 c705
        obtain ⟨v707, c708⟩ : ∃ v, I682 a0 11 = v := ⟨_, rfl⟩
        obtain ⟨y709, c710⟩ : ∃ v, L684 a0 15 = v := ⟨_, rfl⟩
        obtain ⟨v711, c712⟩ : ∃ v, I682 a0 12 = v := ⟨_, rfl⟩
        obtain ⟨v713, c714⟩ : ∃ v, I682 a0 8 = v := ⟨_, rfl⟩
        have b715 := iv15_8 hS689.1 ta0 c714
        exact tr_vret hZ dX12_readCheese_52 rfl (by decide) (by decide) ⟨rfl, rfl, rfl, rfl, rfl, hS689, (Or.inr (⟨(by (try rw [w119]); first | done | omega), (by (try rw [w119]); (try rw [c695]); first | done | omega), (by (try rw [w119]); (try rw [c698]); first | done | omega), (by (try rw [w119]); (try rw [c700]); first | done | omega), trivial⟩)), trivial⟩
  · skip
    obtain ⟨v716, c717⟩ : ∃ v, I68 a0 9 = v := ⟨_, rfl⟩
    have b718 := iv15_9 hS76.1 ta0 c717
    rw [c717] at p90
    obtain ⟨v719, c720⟩ : ∃ v, I68 a0 13 = v := ⟨_, rfl⟩
    rw [c720] at p91
    obtain ⟨v721, c722⟩ : ∃ v, I68 a0 14 = v := ⟨_, rfl⟩
    rw [c722] at p92
    replace hF := hF.pos (by omega)
    replace hP := hP.pos (by omega)
    refine tr_aload_n dX12_readCheese_13 rfl ?_
    refine q_callVl hE (M' := mX12_readFresh) (as := []) dX12_readCheese_14 lk12_285 inX12_readFresh seX12_readFresh myX12_readFresh (by decide) ⟨by decide, by decide⟩ rfl (kR15 hS76.1 ta0) (Nat.le_of_ble_eq_true rfl) rfl rfl (by decide) (by decide) (k_X12_readFresh hS76.1 ta0 ⟨_, d2⟩) ?_
    rintro y727 cn' K' N' I723 R724 L725 ⟨rfl, rfl, rfl, rfl, g726, w728, -⟩
    have hS729 := hS76.tr g726 (by decide +kernel) (by decide +kernel)
    have c730 : I723 a1 3 = v41 := (g726.cell ta1 (by decide +kernel)).trans c77
    have ov731 := w728.over (by rw [c717]; omega)
    obtain ⟨v732, c733⟩ : ∃ v, I723 a0 9 = v := ⟨_, rfl⟩
    have b734 := iv15_9 hS729.1 ta0 c733
    obtain ⟨v735, c736⟩ : ∃ v, I723 a0 13 = v := ⟨_, rfl⟩
    obtain ⟨v737, c738⟩ : ∃ v, I723 a0 14 = v := ⟨_, rfl⟩
    (try rw [c733] at ov731)
    (try rw [c736] at ov731)
    (try rw [c738] at ov731)
    (try rw [c717] at ov731)
    (try rw [c720] at ov731)
    (try rw [c722] at ov731)
    refine tr_lstore_n dX12_readCheese_17 (by decide) (by decide) (by decide) ?_
    refine tr_aload_n dX12_readCheese_18 rfl ?_
    refine tr_ldcwS dX12_readCheese_19 ld12_289 ?_
    refine q_iconst dX12_readCheese_22 (by decide) ?_
    intro v739 h740
    refine tr_aload_n dX12_readCheese_23 rfl ?_
    refine tr_getR dX12_readCheese_24 fl12_188 (kR15 hS729.1 ta0) d2 ?_
    refine q_getI dX12_readCheese_27 fl12_263 (kR14 hS729.1 ta1) ((hS729.cell ta1 (by decide +kernel)).trans c34) ?_
    refine q_iconst dX12_readCheese_30 (by decide) ?_
    intro v741 h742
    refine q_isubE dX12_readCheese_31 (by intros; omega) ?_
    intro v743 h744
    refine q_callVi hE (M' := mX12_readPart) (as := [_, _, _]) dX12_readCheese_32 lk12_249 inX12_readPart seX12_readPart myX12_readPart (by decide) ⟨by decide, by decide⟩ rfl (kR15 hS729.1 ta0) (Nat.le_of_ble_eq_true rfl) rfl rfl (by decide) (by decide) (k_X12_readPart hS729.1 ta0 (by decide)) ?_
    rintro v749 cn' K' N' I745 R746 L747 ⟨rfl, rfl, rfl, rfl, g748, p750, w751, -⟩
    have hS752 := hS729.tr g748 (by decide +kernel) (by decide +kernel)
    have c753 : I745 a1 3 = v41 := (g748.cell ta1 (by decide +kernel)).trans c730
    have b754 : 0 ≤ v749.toInt ∧ v749.toInt ≤ 3 := by omega
    clear p750
    have ov755 := w751.over (by rw [c733]; omega)
    obtain ⟨v756, c757⟩ : ∃ v, I745 a0 9 = v := ⟨_, rfl⟩
    have b758 := iv15_9 hS752.1 ta0 c757
    obtain ⟨v759, c760⟩ : ∃ v, I745 a0 13 = v := ⟨_, rfl⟩
    obtain ⟨v761, c762⟩ : ∃ v, I745 a0 14 = v := ⟨_, rfl⟩
    (try rw [c757] at ov755)
    (try rw [c760] at ov755)
    (try rw [c762] at ov755)
    (try rw [c733] at ov755)
    (try rw [c736] at ov755)
    (try rw [c738] at ov755)
    refine tr_istore_n dX12_readCheese_35 (by decide) (by decide) ?_
    refine tr_aload_n dX12_readCheese_36 rfl ?_
    refine tr_ldcS dX12_readCheese_37 ld12_186 ?_
    refine q_callVi hE (M' := mX12_eatsWord) (as := [_]) dX12_readCheese_39 lk12_290 inX12_eatsWord seX12_eatsWord myX12_eatsWord (by decide) ⟨by decide, by decide⟩ rfl (kR15 hS752.1 ta0) (Nat.le_of_ble_eq_true rfl) rfl rfl (by decide) (by decide) (k_X12_eatsWord hS752.1 ta0 (by decide)) ?_
    rintro v767 cn' K' N' I763 R764 L765 ⟨rfl, rfl, rfl, rfl, g766, h768, w769, -⟩
    have hS770 := hS752.tr g766 (by decide +kernel) (by decide +kernel)
    have c771 : I763 a1 3 = v41 := (g766.cell ta1 (by decide +kernel)).trans c753
    have c772 : I763 a0 13 = v759 := (g766.cell ta0 (by decide +kernel)).trans c760
    have c773 : I763 a0 14 = v761 := (g766.cell ta0 (by decide +kernel)).trans c762
    have ov774 := w769.over (by rw [c757]; omega)
    obtain ⟨v775, c776⟩ : ∃ v, I763 a0 9 = v := ⟨_, rfl⟩
    have b777 := iv15_9 hS770.1 ta0 c776
    obtain ⟨v778, c779⟩ : ∃ v, I763 a0 13 = v := ⟨_, rfl⟩
    obtain ⟨v780, c781⟩ : ∃ v, I763 a0 14 = v := ⟨_, rfl⟩
    (try rw [c776] at ov774)
    (try rw [c779] at ov774)
    (try rw [c781] at ov774)
    (try rw [c757] at ov774)
    (try rw [c760] at ov774)
    (try rw [c762] at ov774)
    refine tr_istore dX12_readCheese_42 (by decide) (by decide) ?_
    refine tr_aload_n dX12_readCheese_44 rfl ?_
    refine q_getI dX12_readCheese_45 fl12_99 (kR15 hS770.1 ta0) c776 ?_
    refine q_iconst dX12_readCheese_48 (by decide) ?_
    intro v782 h783
    refine q_icmp_ne 53 dX12_readCheese_49 (by decide) (fun h784 => ?_) (fun h784 => ?_)
    · skip
      exfalso; omega
    · skip
      have eF := hF.eq
      have eP := hP.eq
      obtain ⟨v785, c786⟩ : ∃ v, I763 a0 10 = v := ⟨_, rfl⟩
      have b787 := iv15_10 hS770.1 ta0 c786
      obtain ⟨v788, c789⟩ : ∃ v, I763 a0 11 = v := ⟨_, rfl⟩
      obtain ⟨y790, c791⟩ : ∃ v, L765 a0 15 = v := ⟨_, rfl⟩
      obtain ⟨v792, c793⟩ : ∃ v, I763 a0 12 = v := ⟨_, rfl⟩
      obtain ⟨v794, c795⟩ : ∃ v, I763 a0 8 = v := ⟨_, rfl⟩
      have b796 := iv15_8 hS770.1 ta0 c795
      exact tr_vret hZ dX12_readCheese_52 rfl (by decide) (by decide) ⟨rfl, rfl, rfl, rfl, rfl, hS770, (Or.inr (⟨(by first | done | omega), (by (try rw [c776]); first | done | omega), (by (try rw [c779]); first | done | omega), (by (try rw [c781]); first | done | omega), trivial⟩)), trivial⟩
  · skip
    obtain ⟨v797, c798⟩ : ∃ v, I68 a0 9 = v := ⟨_, rfl⟩
    have b799 := iv15_9 hS76.1 ta0 c798
    rw [c798] at p95
    obtain ⟨v800, c801⟩ : ∃ v, I68 a0 13 = v := ⟨_, rfl⟩
    rw [c801] at p96
    obtain ⟨v802, c803⟩ : ∃ v, I68 a0 14 = v := ⟨_, rfl⟩
    rw [c803] at p97
    replace hF := hF.neg (by omega)
    replace hP := hP.neg (by omega)
    replace hF := hF.pos (by omega)
    replace hP := hP.pos (by omega)
    refine tr_aload_n dX12_readCheese_13 rfl ?_
    refine q_callVl hE (M' := mX12_readFresh) (as := []) dX12_readCheese_14 lk12_285 inX12_readFresh seX12_readFresh myX12_readFresh (by decide) ⟨by decide, by decide⟩ rfl (kR15 hS76.1 ta0) (Nat.le_of_ble_eq_true rfl) rfl rfl (by decide) (by decide) (k_X12_readFresh hS76.1 ta0 ⟨_, d2⟩) ?_
    rintro y808 cn' K' N' I804 R805 L806 ⟨rfl, rfl, rfl, rfl, g807, w809, -⟩
    have hS810 := hS76.tr g807 (by decide +kernel) (by decide +kernel)
    have c811 : I804 a1 3 = v41 := (g807.cell ta1 (by decide +kernel)).trans c77
    have ov812 := w809.over (by rw [c798]; omega)
    obtain ⟨v813, c814⟩ : ∃ v, I804 a0 9 = v := ⟨_, rfl⟩
    have b815 := iv15_9 hS810.1 ta0 c814
    obtain ⟨v816, c817⟩ : ∃ v, I804 a0 13 = v := ⟨_, rfl⟩
    obtain ⟨v818, c819⟩ : ∃ v, I804 a0 14 = v := ⟨_, rfl⟩
    (try rw [c814] at ov812)
    (try rw [c817] at ov812)
    (try rw [c819] at ov812)
    (try rw [c798] at ov812)
    (try rw [c801] at ov812)
    (try rw [c803] at ov812)
    refine tr_lstore_n dX12_readCheese_17 (by decide) (by decide) (by decide) ?_
    refine tr_aload_n dX12_readCheese_18 rfl ?_
    refine tr_ldcwS dX12_readCheese_19 ld12_289 ?_
    refine q_iconst dX12_readCheese_22 (by decide) ?_
    intro v820 h821
    refine tr_aload_n dX12_readCheese_23 rfl ?_
    refine tr_getR dX12_readCheese_24 fl12_188 (kR15 hS810.1 ta0) d2 ?_
    refine q_getI dX12_readCheese_27 fl12_263 (kR14 hS810.1 ta1) ((hS810.cell ta1 (by decide +kernel)).trans c34) ?_
    refine q_iconst dX12_readCheese_30 (by decide) ?_
    intro v822 h823
    refine q_isubE dX12_readCheese_31 (by intros; omega) ?_
    intro v824 h825
    refine q_callVi hE (M' := mX12_readPart) (as := [_, _, _]) dX12_readCheese_32 lk12_249 inX12_readPart seX12_readPart myX12_readPart (by decide) ⟨by decide, by decide⟩ rfl (kR15 hS810.1 ta0) (Nat.le_of_ble_eq_true rfl) rfl rfl (by decide) (by decide) (k_X12_readPart hS810.1 ta0 (by decide)) ?_
    rintro v830 cn' K' N' I826 R827 L828 ⟨rfl, rfl, rfl, rfl, g829, p831, w832, -⟩
    have hS833 := hS810.tr g829 (by decide +kernel) (by decide +kernel)
    have c834 : I826 a1 3 = v41 := (g829.cell ta1 (by decide +kernel)).trans c811
    have b835 : 0 ≤ v830.toInt ∧ v830.toInt ≤ 3 := by omega
    clear p831
    have ov836 := w832.over (by rw [c814]; omega)
    obtain ⟨v837, c838⟩ : ∃ v, I826 a0 9 = v := ⟨_, rfl⟩
    have b839 := iv15_9 hS833.1 ta0 c838
    obtain ⟨v840, c841⟩ : ∃ v, I826 a0 13 = v := ⟨_, rfl⟩
    obtain ⟨v842, c843⟩ : ∃ v, I826 a0 14 = v := ⟨_, rfl⟩
    (try rw [c838] at ov836)
    (try rw [c841] at ov836)
    (try rw [c843] at ov836)
    (try rw [c814] at ov836)
    (try rw [c817] at ov836)
    (try rw [c819] at ov836)
    refine tr_istore_n dX12_readCheese_35 (by decide) (by decide) ?_
    refine tr_aload_n dX12_readCheese_36 rfl ?_
    refine tr_ldcS dX12_readCheese_37 ld12_186 ?_
    refine q_callVi hE (M' := mX12_eatsWord) (as := [_]) dX12_readCheese_39 lk12_290 inX12_eatsWord seX12_eatsWord myX12_eatsWord (by decide) ⟨by decide, by decide⟩ rfl (kR15 hS833.1 ta0) (Nat.le_of_ble_eq_true rfl) rfl rfl (by decide) (by decide) (k_X12_eatsWord hS833.1 ta0 (by decide)) ?_
    rintro v848 cn' K' N' I844 R845 L846 ⟨rfl, rfl, rfl, rfl, g847, h849, w850, -⟩
    have hS851 := hS833.tr g847 (by decide +kernel) (by decide +kernel)
    have c852 : I844 a1 3 = v41 := (g847.cell ta1 (by decide +kernel)).trans c834
    have c853 : I844 a0 13 = v840 := (g847.cell ta0 (by decide +kernel)).trans c841
    have c854 : I844 a0 14 = v842 := (g847.cell ta0 (by decide +kernel)).trans c843
    have ov855 := w850.over (by rw [c838]; omega)
    obtain ⟨v856, c857⟩ : ∃ v, I844 a0 9 = v := ⟨_, rfl⟩
    have b858 := iv15_9 hS851.1 ta0 c857
    obtain ⟨v859, c860⟩ : ∃ v, I844 a0 13 = v := ⟨_, rfl⟩
    obtain ⟨v861, c862⟩ : ∃ v, I844 a0 14 = v := ⟨_, rfl⟩
    (try rw [c857] at ov855)
    (try rw [c860] at ov855)
    (try rw [c862] at ov855)
    (try rw [c838] at ov855)
    (try rw [c841] at ov855)
    (try rw [c843] at ov855)
    refine tr_istore dX12_readCheese_42 (by decide) (by decide) ?_
    refine tr_aload_n dX12_readCheese_44 rfl ?_
    refine q_getI dX12_readCheese_45 fl12_99 (kR15 hS851.1 ta0) c857 ?_
    refine q_iconst dX12_readCheese_48 (by decide) ?_
    intro v863 h864
    refine q_icmp_ne 53 dX12_readCheese_49 (by decide) (fun h865 => ?_) (fun h865 => ?_)
    · skip
      exfalso; omega
    · skip
      have eF := hF.eq
      have eP := hP.eq
      obtain ⟨v866, c867⟩ : ∃ v, I844 a0 10 = v := ⟨_, rfl⟩
      have b868 := iv15_10 hS851.1 ta0 c867
      obtain ⟨v869, c870⟩ : ∃ v, I844 a0 11 = v := ⟨_, rfl⟩
      obtain ⟨y871, c872⟩ : ∃ v, L846 a0 15 = v := ⟨_, rfl⟩
      obtain ⟨v873, c874⟩ : ∃ v, I844 a0 12 = v := ⟨_, rfl⟩
      obtain ⟨v875, c876⟩ : ∃ v, I844 a0 8 = v := ⟨_, rfl⟩
      have b877 := iv15_8 hS851.1 ta0 c876
      exact tr_vret hZ dX12_readCheese_52 rfl (by decide) (by decide) ⟨rfl, rfl, rfl, rfl, rfl, hS851, (Or.inr (⟨(by first | done | omega), (by (try rw [c857]); first | done | omega), (by (try rw [c860]); first | done | omega), (by (try rw [c862]); first | done | omega), trivial⟩)), trivial⟩
