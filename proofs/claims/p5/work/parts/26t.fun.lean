def wik_X12_readEvent : List Nat := [898, 968, 969, 970, 971, 972, 973, 974, 3519, 3583, 3647, 3711]
def wrk_X12_readEvent : List Nat := []
def wlk_X12_readEvent : List Nat := [975]
set_option maxHeartbeats 4000000 in
theorem fk_X12_readEvent {l : Launch} {T : Nat → Nat} {cn : Nat} {K N : Nat → Nat} {I0 : cz_I} {R0 : cz_R} {L0 : cz_L} (hW0 : Wf T cn K N I0 R0 0) (gB : cz_B) (gs : Int) (gQ : Nat → Int) {a0 : Nat} (ta0 : T a0 = 15) {x1 : Int32} (hx1 : 0 ≤ x1.toInt ∧ x1.toInt ≤ 4) (hT : ∀ t, R0 a0 5 = some t → Tx I0 t gB) (hN : ∀ b, R0 a0 4 = some b → NmM I0 R0 L0 b gQ) (pre0 : (I0 a0 9).toInt = (tkM gB gs)) (pre1 : (I0 a0 9).toInt ≤ 4) (pre2 : (I0 a0 10).toInt = (tkS gB gs)) (pre3 : (I0 a0 11).toInt = (tkG gB gs)) (pre4 : (AtW ((tkK gB gs)) ((L0 a0 15).toInt) ((tkW gB gs)))) (pre5 : (AtV ((tkK gB gs)) ((I0 a0 12).toInt) ((tkV gB gs)))) (pre6 : (AtN ((tkK gB gs)) ((I0 a0 8).toInt) ((tkN gB gs)))) (pre7 : (I0 a0 7).toInt = (gB.2)) (pre8 : ∀ b1, R0 a0 4 = some b1 → (I0 b1 0).toInt = (gQ 0)) (pre9 : ∀ b1, R0 a0 4 = some b1 → (I0 b1 1).toInt = (gQ 1)) (pre10 : ∀ b1, R0 a0 4 = some b1 → (I0 b1 2).toInt = (gQ 2)) (pre11 : ∀ b1, R0 a0 4 = some b1 → (I0 b1 3).toInt = (gQ 3)) (pre12 : ∀ b1, R0 a0 4 = some b1 → (I0 b1 4).toInt = (gQ 4)) (pre13 : ∀ b1, R0 a0 4 = some b1 → (I0 b1 5).toInt = (gQ 5)) (pre14 : ∀ b1, R0 a0 4 = some b1 → (I0 b1 6).toInt = (gQ 6)) (pre15 : ∀ b1, R0 a0 4 = some b1 → (I0 b1 9).toInt = (gQ 8)) (pre16 : (Q7M ((gQ 0)) ((gQ 7)))) (pre17 : (tkK gB gs) = 1) (pre18 : (srt gB gs) = x1.toInt) (nn4 : ∃ b, R0 a0 4 = some b) : ConE l mX12_readEvent [.ref a0, .int x1] cn K N I0 R0 L0 (ca_v (fun cn' K' N' I' R' L' => cn = cn' ∧ K = K' ∧ N = N' ∧ R0 = R' ∧ St T cn K N 0 wik_X12_readEvent wrk_X12_readEvent I0 R0 I' R0 ∧ ((((lnF gB gQ gs) = 0) ∧ (∀ b1, R0 a0 4 = some b1 → (I' b1 0).toInt = (lnQ gB gQ gs 0)) ∧ (∀ b1, R0 a0 4 = some b1 → (I' b1 1).toInt = (lnQ gB gQ gs 1)) ∧ (∀ b1, R0 a0 4 = some b1 → (I' b1 2).toInt = (lnQ gB gQ gs 2)) ∧ (∀ b1, R0 a0 4 = some b1 → (I' b1 3).toInt = (lnQ gB gQ gs 3)) ∧ (∀ b1, R0 a0 4 = some b1 → (I' b1 4).toInt = (lnQ gB gQ gs 4)) ∧ (∀ b1, R0 a0 4 = some b1 → (I' b1 5).toInt = (lnQ gB gQ gs 5)) ∧ (∀ b1, R0 a0 4 = some b1 → (I' b1 6).toInt = (lnQ gB gQ gs 6)) ∧ (∀ b1, R0 a0 4 = some b1 → (I' b1 9).toInt = (lnQ gB gQ gs 8)) ∧ ((I' a0 13).toInt = (I0 a0 13).toInt) ∧ ((I' a0 9).toInt = (tkM gB (lnS gB gQ gs))) ∧ ((I' a0 9).toInt ≤ 4) ∧ ((I' a0 10).toInt = (tkS gB (lnS gB gQ gs))) ∧ ((I' a0 11).toInt = (tkG gB (lnS gB gQ gs))) ∧ ((AtW ((tkK gB (lnS gB gQ gs))) ((L' a0 15).toInt) ((tkW gB (lnS gB gQ gs))))) ∧ ((AtV ((tkK gB (lnS gB gQ gs))) ((I' a0 12).toInt) ((tkV gB (lnS gB gQ gs))))) ∧ ((AtN ((tkK gB (lnS gB gQ gs))) ((I' a0 8).toInt) ((tkN gB (lnS gB gQ gs))))) ∧ LgS T wlk_X12_readEvent L0 L' ∧ (∀ b, R0 a0 4 = some b → NmM I' R0 L' b (lnQ gB gQ gs)) ∧ True) ∨ (((lnF gB gQ gs) ≠ 0) ∧ ((I' a0 9).toInt = 5) ∧ ((I' a0 13).toInt = (lnF gB gQ gs)) ∧ ((I' a0 14).toInt = (lnP gB gQ gs)) ∧ True)) ∧ True)) := by
  refine ConE.of (by decide +kernel) rfl (Nat.le_of_ble_eq_true rfl) rfl (fun X hX hZ hE => ?_)
  subst hX
  have hS0 : St T cn K N 0 wik_X12_readEvent wrk_X12_readEvent I0 R0 I0 R0 := St.rf0 hW0
  have hL0 : LgS T wlk_X12_readEvent L0 L0 := LgS.rf0
  obtain ⟨a1, d2⟩ := nn4
  have ta1 : T a1 = 14 := hW0.rsN ta0 rfl d2
  obtain ⟨v3, c4⟩ : ∃ v, I0 a0 9 = v := ⟨_, rfl⟩
  have b5 := iv15_9 hS0.1 ta0 c4
  have p6 := pre0
  rw [c4] at p6
  have p7 := pre1
  rw [c4] at p7
  obtain ⟨v8, c9⟩ : ∃ v, I0 a0 10 = v := ⟨_, rfl⟩
  have b10 := iv15_10 hS0.1 ta0 c9
  have p11 := pre2
  rw [c9] at p11
  obtain ⟨v12, c13⟩ : ∃ v, I0 a0 11 = v := ⟨_, rfl⟩
  have p14 := pre3
  rw [c13] at p14
  obtain ⟨y15, c16⟩ : ∃ v, L0 a0 15 = v := ⟨_, rfl⟩
  have p17 := pre4
  rw [c16] at p17
  obtain ⟨v18, c19⟩ : ∃ v, I0 a0 12 = v := ⟨_, rfl⟩
  have p20 := pre5
  rw [c19] at p20
  obtain ⟨v21, c22⟩ : ∃ v, I0 a0 8 = v := ⟨_, rfl⟩
  have b23 := iv15_8 hS0.1 ta0 c22
  have p24 := pre6
  rw [c22] at p24
  obtain ⟨v25, c26⟩ : ∃ v, I0 a0 7 = v := ⟨_, rfl⟩
  have b27 := iv15_7 hW0 ta0 c26
  have p28 := pre7
  rw [c26] at p28
  obtain ⟨v29, c30⟩ : ∃ v, I0 a1 0 = v := ⟨_, rfl⟩
  have b31 := iv14_0 hW0 ta1 c30
  have p32 := pre8 _ d2
  rw [c30] at p32
  obtain ⟨v33, c34⟩ : ∃ v, I0 a1 1 = v := ⟨_, rfl⟩
  have b35 := iv14_1 hW0 ta1 c34
  have p36 := pre9 _ d2
  rw [c34] at p36
  obtain ⟨v37, c38⟩ : ∃ v, I0 a1 2 = v := ⟨_, rfl⟩
  have b39 := iv14_2 hS0.1 ta1 c38
  have p40 := pre10 _ d2
  rw [c38] at p40
  obtain ⟨v41, c42⟩ : ∃ v, I0 a1 3 = v := ⟨_, rfl⟩
  have b43 := iv14_3 hW0 ta1 c42
  have p44 := pre11 _ d2
  rw [c42] at p44
  obtain ⟨v45, c46⟩ : ∃ v, I0 a1 4 = v := ⟨_, rfl⟩
  have b47 := iv14_4 hW0 ta1 c46
  have p48 := pre12 _ d2
  rw [c46] at p48
  obtain ⟨v49, c50⟩ : ∃ v, I0 a1 5 = v := ⟨_, rfl⟩
  have b51 := iv14_5 hW0 ta1 c50
  have p52 := pre13 _ d2
  rw [c50] at p52
  obtain ⟨v53, c54⟩ : ∃ v, I0 a1 6 = v := ⟨_, rfl⟩
  have b55 := iv14_6 hW0 ta1 c54
  have p56 := pre14 _ d2
  rw [c54] at p56
  obtain ⟨v57, c58⟩ : ∃ v, I0 a1 9 = v := ⟨_, rfl⟩
  have b59 := iv14_9 hW0 ta1 c58
  have p60 := pre15 _ d2
  rw [c58] at p60
  have p61 := pre16
  have p62 := pre17
  have p63 := pre18
  obtain ⟨v64, c65⟩ : ∃ v, I0 a0 13 = v := ⟨_, rfl⟩
  have hM0 := hN _ d2
  have hF := lnF_ch gB gQ gs
  have hP := lnP_ch gB gQ gs
  replace hF := hF.neg (by omega)
  replace hP := hP.neg (by omega)
  replace hF := hF.neg (by omega)
  replace hP := hP.neg (by omega)
  have kd66 : x1.toInt = 0 ∨ x1.toInt = 1 ∨ x1.toInt = 2 ∨ x1.toInt = 3 ∨ x1.toInt = 4 := by omega
  rcases kd66 with kd66 | kd66 | kd66 | kd66 | kd66
  · skip
    refine tr_aload_n dX12_readEvent_0 rfl ?_
    refine tr_aload_n dX12_readEvent_1 rfl ?_
    refine tr_getR dX12_readEvent_2 fl12_188 (kR15 hS0.1 ta0) d2 ?_
    refine q_getI dX12_readEvent_5 fl12_265 (kR14 hS0.1 ta1) c38 ?_
    refine q_bipush dX12_readEvent_8 (by decide +kernel) ?_
    intro v67 h68
    refine q_callVv hE (M' := mX12_begins) (as := [_, _]) dX12_readEvent_10 lk12_268 inX12_begins seX12_begins myX12_begins (by decide) ⟨by decide, by decide⟩ rfl (kR15 hS0.1 ta0) (Nat.le_of_ble_eq_true rfl) rfl rfl (by decide) (by decide) (fk_X12_begins hS0.1 (gB) (gs) (gQ) ta0 (TxA.kp hT hS0 ta0 rfl rfl rfl (by decide +kernel) (by decide +kernel)) (by (try rw [c4]); first | done | omega) (by (try rw [c4]); first | done | omega) (by (try rw [c9]); first | done | omega) (by (try rw [c13]); first | done | omega) (by (try rw [c16]); first | done | assumption) (by (try rw [c19]); first | done | assumption) (by (try rw [c22]); first | done | assumption) (by (try rw [c26]); first | done | omega) (fun q0 z0 => by obtain rfl := Option.some.inj ((d2).symm.trans z0); (try rw [c30]); first | done | omega) (by first | done | omega) ⟨_, d2⟩) ?_
    rintro cn' K' N' I69 R70 L71 ⟨rfl, rfl, rfl, rfl, g72, dj75, -⟩
    have hM76 : NmM I69 R0 L0 a1 gQ := NmM.kpS hM0 g72 hS0.1 ta1 (by decide +kernel) (by decide +kernel)
    have hS77 := hS0.tr g72 (by decide +kernel) (by decide +kernel)
    have c78 : I69 a1 2 = v37 := (g72.cell ta1 (by decide +kernel)).trans c38
    rcases dj75 with ⟨p79, p80, p81, p82, p83, p84, p85, p86, p87, p88, gl89, -⟩ | ⟨p90, p91, p92, p93, -⟩ | ⟨p94, p95, p96, p97, p98, -⟩
    · skip
      have hL99 := hL0.tr gl89 (by decide +kernel)
      have hM100 : NmM I69 R0 L71 a1 gQ := NmM.kpL hM76 gl89 hS77.1 ta1 (by decide +kernel)
      obtain ⟨v101, c102⟩ : ∃ v, I69 a0 13 = v := ⟨_, rfl⟩
      rw [c102] at p81
      rw [c65] at p81
      obtain ⟨v103, c104⟩ : ∃ v, I69 a0 9 = v := ⟨_, rfl⟩
      have b105 := iv15_9 hS77.1 ta0 c104
      rw [c104] at p82
      rw [c104] at p83
      obtain ⟨v106, c107⟩ : ∃ v, I69 a0 10 = v := ⟨_, rfl⟩
      have b108 := iv15_10 hS77.1 ta0 c107
      rw [c107] at p84
      obtain ⟨v109, c110⟩ : ∃ v, I69 a0 11 = v := ⟨_, rfl⟩
      rw [c110] at p85
      obtain ⟨y111, c112⟩ : ∃ v, L71 a0 15 = v := ⟨_, rfl⟩
      rw [c112] at p86
      obtain ⟨v113, c114⟩ : ∃ v, I69 a0 12 = v := ⟨_, rfl⟩
      rw [c114] at p87
      obtain ⟨v115, c116⟩ : ∃ v, I69 a0 8 = v := ⟨_, rfl⟩
      have b117 := iv15_8 hS77.1 ta0 c116
      rw [c116] at p88
      have p118 := p61
      unfold Q7M at p118
      replace hF := hF.neg (by omega)
      replace hP := hP.neg (by omega)
      replace hF := hF.neg (by omega)
      replace hP := hP.neg (by omega)
      clear p118
      obtain ⟨w119, w120, w121, w122, w123, w124, w125, w126, w127, w128, w129, w130⟩ := lnl_e (B := gB) (Q := gQ) (s := gs) (by omega) (by omega)
      replace hF := hF.to w119 (evF_c0 (B := gB) (Q := gQ) (k := srt gB gs) (s := (tkN gB gs)) (by omega) (by omega))
      replace hP := hP.to w120 (evP_c0 (B := gB) (Q := gQ) (k := srt gB gs) (s := (tkN gB gs)) (by omega) (by omega))
      refine tr_iload_n dX12_readEvent_13 rfl ?_
      refine q_iconst dX12_readEvent_14 (by decide) ?_
      intro v131 h132
      refine q_icmp_eq 23 dX12_readEvent_15 (by decide) (fun h133 => ?_) (fun h133 => ?_)
      · skip
        exfalso; omega
      · skip
        refine tr_iload_n dX12_readEvent_18 rfl ?_
        refine q_iconst dX12_readEvent_19 (by decide) ?_
        intro v134 h135
        refine q_icmp_ne 40 dX12_readEvent_20 (by decide) (fun h136 => ?_) (fun h136 => ?_)
        · skip
          refine q_bipush dX12_readEvent_40 (by decide +kernel) ?_
          intro v137 h138
          refine tr_istore_n dX12_readEvent_42 (by decide) (by decide) ?_
          refine tr_aload_n dX12_readEvent_43 rfl ?_
          refine q_iconst dX12_readEvent_44 (by decide) ?_
          intro v139 h140
          refine tr_aload_n dX12_readEvent_45 rfl ?_
          refine tr_getR dX12_readEvent_46 fl12_188 (kR15 hS77.1 ta0) d2 ?_
          refine q_getI dX12_readEvent_49 fl12_192 (kR14 hS77.1 ta1) ((hS77.cell ta1 (by decide +kernel)).trans c30) ?_
          refine q_iconst dX12_readEvent_52 (by decide) ?_
          intro v141 h142
          refine q_isubE dX12_readEvent_53 (by intros; omega) ?_
          intro v143 h144
          refine q_callVi hE (M' := mX12_readWhole) (as := [_, _]) dX12_readEvent_54 lk12_161 inX12_readWhole seX12_readWhole myX12_readWhole (by decide) ⟨by decide, by decide⟩ rfl (kR15 hS77.1 ta0) (Nat.le_of_ble_eq_true rfl) rfl rfl (by decide) (by decide) (fk_X12_readWhole hS77.1 (gB) ((tkN gB gs)) ta0 (TxA.kp hT hS77 ta0 rfl rfl rfl (by decide +kernel) (by decide +kernel)) (by (try rw [c104]); first | done | omega) (by (try rw [c104]); first | done | omega) (by (try rw [c107]); first | done | omega) (by (try rw [c110]); first | done | omega) (by (try rw [c112]); first | done | assumption) (by (try rw [c114]); first | done | assumption) (by (try rw [c116]); first | done | assumption) (by (try rw [((hS77.cell ta0 (by decide +kernel)).trans c26)]); first | done | omega)) ?_
          rintro v150 cn' K' N' I145 R146 L147 ⟨rfl, rfl, rfl, rfl, g148, dj151, -⟩
          have hM152 : NmM I145 R0 L71 a1 gQ := NmM.kpS hM100 g148 hS77.1 ta1 (by decide +kernel) (by decide +kernel)
          have hS153 := hS77.tr g148 (by decide +kernel) (by decide +kernel)
          have c154 : I145 a1 2 = v37 := (g148.cell ta1 (by decide +kernel)).trans c78
          rcases dj151 with ⟨p155, p156, p157, p158, p159, p160, p161, p162, p163, p164, p165, p166, gl167, -⟩ | ⟨p168, p169, p170, p171, p172, -⟩ | ⟨p173, p174, p175, p176, p177, p178, -⟩
          · skip
            have hL179 := hL99.tr gl167 (by decide +kernel)
            have hM180 : NmM I145 R0 L147 a1 gQ := NmM.kpL hM152 gl167 hS153.1 ta1 (by decide +kernel)
            obtain ⟨v181, c182⟩ : ∃ v, I145 a0 13 = v := ⟨_, rfl⟩
            rw [c182] at p159
            rw [c102] at p159
            obtain ⟨v183, c184⟩ : ∃ v, I145 a0 9 = v := ⟨_, rfl⟩
            have b185 := iv15_9 hS153.1 ta0 c184
            rw [c184] at p160
            rw [c184] at p161
            obtain ⟨v186, c187⟩ : ∃ v, I145 a0 10 = v := ⟨_, rfl⟩
            have b188 := iv15_10 hS153.1 ta0 c187
            rw [c187] at p162
            obtain ⟨v189, c190⟩ : ∃ v, I145 a0 11 = v := ⟨_, rfl⟩
            rw [c190] at p163
            obtain ⟨y191, c192⟩ : ∃ v, L147 a0 15 = v := ⟨_, rfl⟩
            rw [c192] at p164
            obtain ⟨v193, c194⟩ : ∃ v, I145 a0 12 = v := ⟨_, rfl⟩
            rw [c194] at p165
            obtain ⟨v195, c196⟩ : ∃ v, I145 a0 8 = v := ⟨_, rfl⟩
            have b197 := iv15_8 hS153.1 ta0 c196
            rw [c196] at p166
            replace hF := hF.neg (by omega)
            replace hP := hP.neg (by omega)
            replace hF := hF.neg (by omega)
            replace hP := hP.neg (by omega)
            refine tr_istore_n dX12_readEvent_57 (by decide) (by decide) ?_
            refine tr_iload_n dX12_readEvent_58 rfl ?_
            refine q_iconst dX12_readEvent_59 (by decide) ?_
            intro v198 h199
            refine q_icmp_ne 69 dX12_readEvent_60 (by decide) (fun h200 => ?_) (fun h200 => ?_)
            · skip
              refine tr_aload_n dX12_readEvent_69 rfl ?_
              refine tr_ldcwS dX12_readEvent_70 ld12_272 ?_
              refine tr_iload_n dX12_readEvent_73 rfl ?_
              refine q_iconst dX12_readEvent_74 (by decide) ?_
              intro v201 h202
              refine q_iaddE dX12_readEvent_75 (by intros; omega) ?_
              intro v203 h204
              refine tr_aload_n dX12_readEvent_76 rfl ?_
              refine tr_getR dX12_readEvent_77 fl12_188 (kR15 hS153.1 ta0) d2 ?_
              refine q_getI dX12_readEvent_80 fl12_192 (kR14 hS153.1 ta1) ((hS153.cell ta1 (by decide +kernel)).trans c30) ?_
              refine q_callVi hE (M' := mX12_readPart) (as := [_, _, _]) dX12_readEvent_83 lk12_249 inX12_readPart seX12_readPart myX12_readPart (by decide) ⟨by decide, by decide⟩ rfl (kR15 hS153.1 ta0) (Nat.le_of_ble_eq_true rfl) rfl rfl (by decide) (by decide) (fk_X12_readPart hS153.1 (gB) ((tkN gB (tkN gB gs))) ta0 (by decide) (TxA.kp hT hS153 ta0 rfl rfl rfl (by decide +kernel) (by decide +kernel)) (by (try rw [c184]); first | done | omega) (by (try rw [c184]); first | done | omega) (by (try rw [c187]); first | done | omega) (by (try rw [c190]); first | done | omega) (by (try rw [c192]); first | done | assumption) (by (try rw [c194]); first | done | assumption) (by (try rw [c196]); first | done | assumption) (by (try rw [((hS153.cell ta0 (by decide +kernel)).trans c26)]); first | done | omega)) ?_
              rintro v210 cn' K' N' I205 R206 L207 ⟨rfl, rfl, rfl, rfl, g208, dj211, -⟩
              (try rw [pk_25] at dj211)
              have hM212 : NmM I205 R0 L147 a1 gQ := NmM.kpS hM180 g208 hS153.1 ta1 (by decide +kernel) (by decide +kernel)
              have hS213 := hS153.tr g208 (by decide +kernel) (by decide +kernel)
              have c214 : I205 a1 2 = v37 := (g208.cell ta1 (by decide +kernel)).trans c154
              rcases dj211 with ⟨p215, p216, p217, p218, p219, p220, p221, p222, p223, p224, p225, p226, p227, p228, gl229, -⟩ | ⟨p230, p231, p232, p233, p234, -⟩ | ⟨p235, p236, p237, p238, p239, p240, p241, -⟩ | ⟨p242, p243, p244, p245, p246, p247, p248, p249, -⟩
              · skip
                have hL250 := hL179.tr gl229 (by decide +kernel)
                have hM251 : NmM I205 R0 L207 a1 gQ := NmM.kpL hM212 gl229 hS213.1 ta1 (by decide +kernel)
                obtain ⟨v252, c253⟩ : ∃ v, I205 a0 13 = v := ⟨_, rfl⟩
                rw [c253] at p221
                rw [c182] at p221
                obtain ⟨v254, c255⟩ : ∃ v, I205 a0 9 = v := ⟨_, rfl⟩
                have b256 := iv15_9 hS213.1 ta0 c255
                rw [c255] at p222
                rw [c255] at p223
                obtain ⟨v257, c258⟩ : ∃ v, I205 a0 10 = v := ⟨_, rfl⟩
                have b259 := iv15_10 hS213.1 ta0 c258
                rw [c258] at p224
                obtain ⟨v260, c261⟩ : ∃ v, I205 a0 11 = v := ⟨_, rfl⟩
                rw [c261] at p225
                obtain ⟨y262, c263⟩ : ∃ v, L207 a0 15 = v := ⟨_, rfl⟩
                rw [c263] at p226
                obtain ⟨v264, c265⟩ : ∃ v, I205 a0 12 = v := ⟨_, rfl⟩
                rw [c265] at p227
                obtain ⟨v266, c267⟩ : ∃ v, I205 a0 8 = v := ⟨_, rfl⟩
                have b268 := iv15_8 hS213.1 ta0 c267
                rw [c267] at p228
                replace hF := hF.neg (by omega)
                replace hP := hP.neg (by omega)
                replace hF := hF.neg (by omega)
                replace hP := hP.neg (by omega)
                replace hF := hF.neg (by omega)
                replace hP := hP.neg (by omega)
                refine tr_istore dX12_readEvent_86 (by decide) (by decide) ?_
                refine tr_aload_n dX12_readEvent_88 rfl ?_
                refine q_getI dX12_readEvent_89 fl12_99 (kR15 hS213.1 ta0) c255 ?_
                refine q_iconst dX12_readEvent_92 (by decide) ?_
                intro v269 h270
                refine q_icmp_ne 97 dX12_readEvent_93 (by decide) (fun h271 => ?_) (fun h271 => ?_)
                · skip
                  refine tr_aload_n dX12_readEvent_97 rfl ?_
                  refine tr_getR dX12_readEvent_98 fl12_188 (kR15 hS213.1 ta0) d2 ?_
                  refine q_getI dX12_readEvent_101 fl12_265 (kR14 hS213.1 ta1) c214 ?_
                  refine tr_istore dX12_readEvent_104 (by decide) (by decide) ?_
                  refine tr_aload_n dX12_readEvent_106 rfl ?_
                  refine tr_getR dX12_readEvent_107 fl12_188 (kR15 hS213.1 ta0) d2 ?_
                  obtain ⟨a272, d273, ta272⟩ := rf14_11 hW0 ta1
                  refine tr_getR dX12_readEvent_110 fl12_274 (kR14 hS213.1 ta1) d273 ?_
                  refine tr_iload dX12_readEvent_113 rfl ?_
                  refine tr_iload_n dX12_readEvent_115 rfl ?_
                  refine q_iastX dX12_readEvent_116 (kR54 hS213.1 ta272) (ti_in (nR54 hS213.1 ta272) (by omega) (by omega)) hS213 ta272 (by rfl) (hS213.1.putK (m := a1) ta1 d273 (by rw [c214]; exact Int.le_of_eq (ti_nat (by omega)).symm)) ?_
                  intro I278 hS279 e280 f281
                  have c282 : I278 a1 2 = v37 := (f281 _ _ (fun q => by have z := ta1; rw [q.1, ta272] at z; exact absurd z (by decide))).trans c214
                  have c283 : I278 a0 13 = v252 := (f281 _ _ (fun q => by have z := ta0; rw [q.1, ta272] at z; exact absurd z (by decide))).trans c253
                  have c284 : I278 a0 9 = v254 := (f281 _ _ (fun q => by have z := ta0; rw [q.1, ta272] at z; exact absurd z (by decide))).trans c255
                  have c285 : I278 a0 10 = v257 := (f281 _ _ (fun q => by have z := ta0; rw [q.1, ta272] at z; exact absurd z (by decide))).trans c258
                  have c286 : I278 a0 11 = v260 := (f281 _ _ (fun q => by have z := ta0; rw [q.1, ta272] at z; exact absurd z (by decide))).trans c261
                  have c287 : I278 a0 12 = v264 := (f281 _ _ (fun q => by have z := ta0; rw [q.1, ta272] at z; exact absurd z (by decide))).trans c265
                  have c288 : I278 a0 8 = v266 := (f281 _ _ (fun q => by have z := ta0; rw [q.1, ta272] at z; exact absurd z (by decide))).trans c267
                  have hM289 : NmM I278 R0 L207 a1 gQ := NmM.kp1 hM251 f281 ta272 rfl rfl hS213.1 ta1
                  refine tr_aload_n dX12_readEvent_117 rfl ?_
                  refine tr_getR dX12_readEvent_118 fl12_188 (kR15 hS279.1 ta0) d2 ?_
                  obtain ⟨a290, d291, ta290⟩ := rf14_12 hW0 ta1
                  refine tr_getR dX12_readEvent_121 fl12_277 (kR14 hS279.1 ta1) d291 ?_
                  refine tr_iload dX12_readEvent_124 rfl ?_
                  refine tr_iload_n dX12_readEvent_126 rfl ?_
                  refine q_iastX dX12_readEvent_127 (kR55 hS279.1 ta290) (ti_in (nR55 hS279.1 ta290) (by omega) (by omega)) hS279 ta290 (by rfl) (hS279.1.putH (m := a1) ta1 d291 (by rw [c282]; exact Int.le_of_eq (ti_nat (by omega)).symm) (by omega)) ?_
                  intro I296 hS297 e298 f299
                  have c300 : I296 a1 2 = v37 := (f299 _ _ (fun q => by have z := ta1; rw [q.1, ta290] at z; exact absurd z (by decide))).trans c282
                  have c301 : I296 a0 13 = v252 := (f299 _ _ (fun q => by have z := ta0; rw [q.1, ta290] at z; exact absurd z (by decide))).trans c283
                  have c302 : I296 a0 9 = v254 := (f299 _ _ (fun q => by have z := ta0; rw [q.1, ta290] at z; exact absurd z (by decide))).trans c284
                  have c303 : I296 a0 10 = v257 := (f299 _ _ (fun q => by have z := ta0; rw [q.1, ta290] at z; exact absurd z (by decide))).trans c285
                  have c304 : I296 a0 11 = v260 := (f299 _ _ (fun q => by have z := ta0; rw [q.1, ta290] at z; exact absurd z (by decide))).trans c286
                  have c305 : I296 a0 12 = v264 := (f299 _ _ (fun q => by have z := ta0; rw [q.1, ta290] at z; exact absurd z (by decide))).trans c287
                  have c306 : I296 a0 8 = v266 := (f299 _ _ (fun q => by have z := ta0; rw [q.1, ta290] at z; exact absurd z (by decide))).trans c288
                  have c307 : I296 a272 v37.toNatClampNeg = x1 := (f299 _ _ (fun q => by have z := ta272; rw [q.1, ta290] at z; exact absurd z (by decide))).trans e280
                  have hM308 : NmM I296 R0 L207 a1 gQ := NmM.kp1 hM289 f299 ta290 rfl rfl hS279.1 ta1
                  refine tr_aload_n dX12_readEvent_128 rfl ?_
                  refine tr_getR dX12_readEvent_129 fl12_188 (kR15 hS297.1 ta0) d2 ?_
                  obtain ⟨a309, d310, ta309⟩ := rf14_13 hW0 ta1
                  refine tr_getR dX12_readEvent_132 fl12_280 (kR14 hS297.1 ta1) d310 ?_
                  refine tr_iload dX12_readEvent_135 rfl ?_
                  refine tr_iload_n dX12_readEvent_137 rfl ?_
                  refine q_iast dX12_readEvent_138 (kR56 hS297.1 ta309) (ti_in (nR56 hS297.1 ta309) (by omega) (by omega)) hS297 ta309 (by show (0 : Int) ≤ v150.toInt ∧ v150.toInt ≤ (240 : Int); omega) rfl (by rfl) ?_
                  intro I311 hS312 e314 f313
                  have c315 : I311 a1 2 = v37 := (f313 _ _ (fun q => by have z := ta1; rw [q.1, ta309] at z; exact absurd z (by decide))).trans c300
                  have c316 : I311 a0 13 = v252 := (f313 _ _ (fun q => by have z := ta0; rw [q.1, ta309] at z; exact absurd z (by decide))).trans c301
                  have c317 : I311 a0 9 = v254 := (f313 _ _ (fun q => by have z := ta0; rw [q.1, ta309] at z; exact absurd z (by decide))).trans c302
                  have c318 : I311 a0 10 = v257 := (f313 _ _ (fun q => by have z := ta0; rw [q.1, ta309] at z; exact absurd z (by decide))).trans c303
                  have c319 : I311 a0 11 = v260 := (f313 _ _ (fun q => by have z := ta0; rw [q.1, ta309] at z; exact absurd z (by decide))).trans c304
                  have c320 : I311 a0 12 = v264 := (f313 _ _ (fun q => by have z := ta0; rw [q.1, ta309] at z; exact absurd z (by decide))).trans c305
                  have c321 : I311 a0 8 = v266 := (f313 _ _ (fun q => by have z := ta0; rw [q.1, ta309] at z; exact absurd z (by decide))).trans c306
                  have c322 : I311 a272 v37.toNatClampNeg = x1 := (f313 _ _ (fun q => by have z := ta272; rw [q.1, ta309] at z; exact absurd z (by decide))).trans c307
                  have c323 : I311 a290 v37.toNatClampNeg = v137 := (f313 _ _ (fun q => by have z := ta290; rw [q.1, ta309] at z; exact absurd z (by decide))).trans e298
                  have hM324 : NmM I311 R0 L207 a1 gQ := NmM.kp1 hM308 f313 ta309 rfl rfl hS297.1 ta1
                  refine tr_aload_n dX12_readEvent_139 rfl ?_
                  refine tr_getR dX12_readEvent_140 fl12_188 (kR15 hS312.1 ta0) d2 ?_
                  obtain ⟨a325, d326, ta325⟩ := rf14_14 hW0 ta1
                  refine tr_getR dX12_readEvent_143 fl12_283 (kR14 hS312.1 ta1) d326 ?_
                  refine tr_iload dX12_readEvent_146 rfl ?_
                  refine tr_iload dX12_readEvent_148 rfl ?_
                  refine q_iast dX12_readEvent_150 (kR57 hS312.1 ta325) (ti_in (nR57 hS312.1 ta325) (by omega) (by omega)) hS312 ta325 (by show (0 : Int) ≤ v210.toInt ∧ v210.toInt ≤ (240 : Int); omega) rfl (by rfl) ?_
                  intro I327 hS328 e330 f329
                  have c331 : I327 a1 2 = v37 := (f329 _ _ (fun q => by have z := ta1; rw [q.1, ta325] at z; exact absurd z (by decide))).trans c315
                  have c332 : I327 a0 13 = v252 := (f329 _ _ (fun q => by have z := ta0; rw [q.1, ta325] at z; exact absurd z (by decide))).trans c316
                  have c333 : I327 a0 9 = v254 := (f329 _ _ (fun q => by have z := ta0; rw [q.1, ta325] at z; exact absurd z (by decide))).trans c317
                  have c334 : I327 a0 10 = v257 := (f329 _ _ (fun q => by have z := ta0; rw [q.1, ta325] at z; exact absurd z (by decide))).trans c318
                  have c335 : I327 a0 11 = v260 := (f329 _ _ (fun q => by have z := ta0; rw [q.1, ta325] at z; exact absurd z (by decide))).trans c319
                  have c336 : I327 a0 12 = v264 := (f329 _ _ (fun q => by have z := ta0; rw [q.1, ta325] at z; exact absurd z (by decide))).trans c320
                  have c337 : I327 a0 8 = v266 := (f329 _ _ (fun q => by have z := ta0; rw [q.1, ta325] at z; exact absurd z (by decide))).trans c321
                  have c338 : I327 a272 v37.toNatClampNeg = x1 := (f329 _ _ (fun q => by have z := ta272; rw [q.1, ta325] at z; exact absurd z (by decide))).trans c322
                  have c339 : I327 a290 v37.toNatClampNeg = v137 := (f329 _ _ (fun q => by have z := ta290; rw [q.1, ta325] at z; exact absurd z (by decide))).trans c323
                  have hM340 : NmM I327 R0 L207 a1 gQ := NmM.kp1 hM324 f329 ta325 rfl rfl hS312.1 ta1
                  refine tr_aload_n dX12_readEvent_151 rfl ?_
                  refine tr_getR dX12_readEvent_152 fl12_188 (kR15 hS328.1 ta0) d2 ?_
                  refine tr_dup dX12_readEvent_155 rfl ?_
                  refine q_getI dX12_readEvent_156 fl12_265 (kR14 hS328.1 ta1) c331 ?_
                  refine q_iconst dX12_readEvent_159 (by decide) ?_
                  intro v341 h342
                  refine q_iaddE dX12_readEvent_160 (by intros; omega) ?_
                  intro v343 h344
                  refine q_putX dX12_readEvent_161 fl12_265 (kR14 hS328.1 ta1) (Or.inl rfl) hS328 ta1 (by decide +kernel) (hS328.1.putE (i := v37.toNatClampNeg) ta1 d273 d291 (by rw [c331]; exact (ti_nat (by omega)).symm) (by rw [c331]; omega) (by omega) (by rw [c338, c339]; omega)) ?_
                  intro I345 hS346 e347 f348
                  have c349 : I345 a0 13 = v252 := (f348 _ _ (fun q => absurd q.2 (by decide))).trans c332
                  have c350 : I345 a0 9 = v254 := (f348 _ _ (fun q => absurd q.2 (by decide))).trans c333
                  have c351 : I345 a0 10 = v257 := (f348 _ _ (fun q => absurd q.2 (by decide))).trans c334
                  have c352 : I345 a0 11 = v260 := (f348 _ _ (fun q => absurd q.2 (by decide))).trans c335
                  have c353 : I345 a0 12 = v264 := (f348 _ _ (fun q => absurd q.2 (by decide))).trans c336
                  have c354 : I345 a0 8 = v266 := (f348 _ _ (fun q => absurd q.2 (by decide))).trans c337
                  have c355 : I345 a272 v37.toNatClampNeg = x1 := (f348 _ _ (fun q => by have z := ta272; rw [q.1, ta1] at z; exact absurd z (by decide))).trans c338
                  have c356 : I345 a290 v37.toNatClampNeg = v137 := (f348 _ _ (fun q => by have z := ta290; rw [q.1, ta1] at z; exact absurd z (by decide))).trans c339
                  have hM357 : NmM I345 R0 L207 a1 gQ := NmM.kp1 hM340 f348 ta1 rfl rfl hS328.1 ta1
                  have eF := hF.eq
                  have eP := hP.eq
                  have es358 := evS_c0 (B := gB) (Q := gQ) (k := srt gB gs) (s := (tkN gB gs)) (by omega) (by omega)
                  obtain ⟨v359, c360⟩ : ∃ v, I345 a0 14 = v := ⟨_, rfl⟩
                  exact tr_vret hZ dX12_readEvent_164 rfl (by decide) (by decide) ⟨rfl, rfl, rfl, rfl, rfl, hS346, (Or.inl ⟨(by (try rw [w121]); (try rw [es358]); first | done | omega), (fun q0 z0 => by obtain rfl := Option.some.inj ((d2).symm.trans z0); (try rw [w121]); (try rw [es358]); (try rw [((hS346.cell ta1 (by decide +kernel)).trans c30)]); first | done | omega), (fun q0 z0 => by obtain rfl := Option.some.inj ((d2).symm.trans z0); (try rw [w121]); (try rw [es358]); (try rw [((hS346.cell ta1 (by decide +kernel)).trans c34)]); first | done | omega), (fun q0 z0 => by obtain rfl := Option.some.inj ((d2).symm.trans z0); (try rw [w121]); (try rw [es358]); (try rw [e347]); first | done | omega), (fun q0 z0 => by obtain rfl := Option.some.inj ((d2).symm.trans z0); (try rw [w121]); (try rw [es358]); (try rw [((hS346.cell ta1 (by decide +kernel)).trans c42)]); first | done | omega), (fun q0 z0 => by obtain rfl := Option.some.inj ((d2).symm.trans z0); (try rw [w121]); (try rw [es358]); (try rw [((hS346.cell ta1 (by decide +kernel)).trans c46)]); first | done | omega), (fun q0 z0 => by obtain rfl := Option.some.inj ((d2).symm.trans z0); (try rw [w121]); (try rw [es358]); (try rw [((hS346.cell ta1 (by decide +kernel)).trans c50)]); first | done | omega), (fun q0 z0 => by obtain rfl := Option.some.inj ((d2).symm.trans z0); (try rw [w121]); (try rw [es358]); (try rw [((hS346.cell ta1 (by decide +kernel)).trans c54)]); first | done | omega), (fun q0 z0 => by obtain rfl := Option.some.inj ((d2).symm.trans z0); (try rw [w121]); (try rw [es358]); (try rw [((hS346.cell ta1 (by decide +kernel)).trans c58)]); first | done | omega), (by (try rw [w121]); (try rw [es358]); (try rw [c349]); (try rw [c65]); first | done | omega), (by (try rw [w121]); (try rw [es358]); (try rw [c350]); first | done | omega), (by (try rw [w121]); (try rw [es358]); (try rw [c350]); first | done | omega), (by (try rw [w121]); (try rw [es358]); (try rw [c351]); first | done | omega), (by (try rw [w121]); (try rw [es358]); (try rw [c352]); first | done | omega), (by (try rw [w121]); (try rw [es358]); (try rw [c263]); first | done | assumption), (by (try rw [w121]); (try rw [es358]); (try rw [c353]); first | done | assumption), (by (try rw [w121]); (try rw [es358]); (try rw [c354]); first | done | assumption), hL250, (fun b hb => (Option.some.inj (d2.symm.trans hb)) ▸ NmM.ln (NmM.bd (k := srt gB gs) hM357 (by omega) (by omega)) rfl), trivial⟩), trivial⟩
                · skip
                  exfalso; omega
              · skip
                obtain ⟨v361, c362⟩ : ∃ v, I205 a0 9 = v := ⟨_, rfl⟩
                have b363 := iv15_9 hS213.1 ta0 c362
                rw [c362] at p232
                obtain ⟨v364, c365⟩ : ∃ v, I205 a0 13 = v := ⟨_, rfl⟩
                rw [c365] at p233
                obtain ⟨v366, c367⟩ : ∃ v, I205 a0 14 = v := ⟨_, rfl⟩
                rw [c367] at p234
                replace hF := hF.pos (by omega)
                replace hP := hP.pos (by omega)
                refine tr_istore dX12_readEvent_86 (by decide) (by decide) ?_
                refine tr_aload_n dX12_readEvent_88 rfl ?_
                refine q_getI dX12_readEvent_89 fl12_99 (kR15 hS213.1 ta0) c362 ?_
                refine q_iconst dX12_readEvent_92 (by decide) ?_
                intro v368 h369
                refine q_icmp_ne 97 dX12_readEvent_93 (by decide) (fun h370 => ?_) (fun h370 => ?_)
                · skip
                  exfalso; omega
                · skip
                  have eF := hF.eq
                  have eP := hP.eq
                  obtain ⟨v371, c372⟩ : ∃ v, I205 a0 10 = v := ⟨_, rfl⟩
                  have b373 := iv15_10 hS213.1 ta0 c372
                  obtain ⟨v374, c375⟩ : ∃ v, I205 a0 11 = v := ⟨_, rfl⟩
                  obtain ⟨y376, c377⟩ : ∃ v, L207 a0 15 = v := ⟨_, rfl⟩
                  obtain ⟨v378, c379⟩ : ∃ v, I205 a0 12 = v := ⟨_, rfl⟩
                  obtain ⟨v380, c381⟩ : ∃ v, I205 a0 8 = v := ⟨_, rfl⟩
                  have b382 := iv15_8 hS213.1 ta0 c381
                  exact tr_vret hZ dX12_readEvent_96 rfl (by decide) (by decide) ⟨rfl, rfl, rfl, rfl, rfl, hS213, (Or.inr (⟨(by (try rw [w121]); first | done | omega), (by (try rw [w121]); (try rw [c362]); first | done | omega), (by (try rw [w121]); (try rw [c365]); first | done | omega), (by (try rw [w121]); (try rw [c367]); first | done | omega), trivial⟩)), trivial⟩
              · skip
                obtain ⟨v383, c384⟩ : ∃ v, I205 a0 9 = v := ⟨_, rfl⟩
                have b385 := iv15_9 hS213.1 ta0 c384
                rw [c384] at p239
                obtain ⟨v386, c387⟩ : ∃ v, I205 a0 13 = v := ⟨_, rfl⟩
                rw [c387] at p240
                obtain ⟨v388, c389⟩ : ∃ v, I205 a0 14 = v := ⟨_, rfl⟩
                rw [c389] at p241
                replace hF := hF.neg (by omega)
                replace hP := hP.neg (by omega)
                replace hF := hF.pos (by omega)
                replace hP := hP.pos (by omega)
                refine tr_istore dX12_readEvent_86 (by decide) (by decide) ?_
                refine tr_aload_n dX12_readEvent_88 rfl ?_
                refine q_getI dX12_readEvent_89 fl12_99 (kR15 hS213.1 ta0) c384 ?_
                refine q_iconst dX12_readEvent_92 (by decide) ?_
                intro v390 h391
                refine q_icmp_ne 97 dX12_readEvent_93 (by decide) (fun h392 => ?_) (fun h392 => ?_)
                · skip
                  exfalso; omega
                · skip
                  have eF := hF.eq
                  have eP := hP.eq
                  obtain ⟨v393, c394⟩ : ∃ v, I205 a0 10 = v := ⟨_, rfl⟩
                  have b395 := iv15_10 hS213.1 ta0 c394
                  obtain ⟨v396, c397⟩ : ∃ v, I205 a0 11 = v := ⟨_, rfl⟩
                  obtain ⟨y398, c399⟩ : ∃ v, L207 a0 15 = v := ⟨_, rfl⟩
                  obtain ⟨v400, c401⟩ : ∃ v, I205 a0 12 = v := ⟨_, rfl⟩
                  obtain ⟨v402, c403⟩ : ∃ v, I205 a0 8 = v := ⟨_, rfl⟩
                  have b404 := iv15_8 hS213.1 ta0 c403
                  exact tr_vret hZ dX12_readEvent_96 rfl (by decide) (by decide) ⟨rfl, rfl, rfl, rfl, rfl, hS213, (Or.inr (⟨(by (try rw [w121]); first | done | omega), (by (try rw [w121]); (try rw [c384]); first | done | omega), (by (try rw [w121]); (try rw [c387]); first | done | omega), (by (try rw [w121]); (try rw [c389]); first | done | omega), trivial⟩)), trivial⟩
              · skip
                obtain ⟨v405, c406⟩ : ∃ v, I205 a0 9 = v := ⟨_, rfl⟩
                have b407 := iv15_9 hS213.1 ta0 c406
                rw [c406] at p247
                obtain ⟨v408, c409⟩ : ∃ v, I205 a0 13 = v := ⟨_, rfl⟩
                rw [c409] at p248
                obtain ⟨v410, c411⟩ : ∃ v, I205 a0 14 = v := ⟨_, rfl⟩
                rw [c411] at p249
                replace hF := hF.neg (by omega)
                replace hP := hP.neg (by omega)
                replace hF := hF.neg (by omega)
                replace hP := hP.neg (by omega)
                replace hF := hF.pos (by omega)
                replace hP := hP.pos (by omega)
                refine tr_istore dX12_readEvent_86 (by decide) (by decide) ?_
                refine tr_aload_n dX12_readEvent_88 rfl ?_
                refine q_getI dX12_readEvent_89 fl12_99 (kR15 hS213.1 ta0) c406 ?_
                refine q_iconst dX12_readEvent_92 (by decide) ?_
                intro v412 h413
                refine q_icmp_ne 97 dX12_readEvent_93 (by decide) (fun h414 => ?_) (fun h414 => ?_)
                · skip
                  exfalso; omega
                · skip
                  have eF := hF.eq
                  have eP := hP.eq
                  obtain ⟨v415, c416⟩ : ∃ v, I205 a0 10 = v := ⟨_, rfl⟩
                  have b417 := iv15_10 hS213.1 ta0 c416
                  obtain ⟨v418, c419⟩ : ∃ v, I205 a0 11 = v := ⟨_, rfl⟩
                  obtain ⟨y420, c421⟩ : ∃ v, L207 a0 15 = v := ⟨_, rfl⟩
                  obtain ⟨v422, c423⟩ : ∃ v, I205 a0 12 = v := ⟨_, rfl⟩
                  obtain ⟨v424, c425⟩ : ∃ v, I205 a0 8 = v := ⟨_, rfl⟩
                  have b426 := iv15_8 hS213.1 ta0 c425
                  exact tr_vret hZ dX12_readEvent_96 rfl (by decide) (by decide) ⟨rfl, rfl, rfl, rfl, rfl, hS213, (Or.inr (⟨(by (try rw [w121]); first | done | omega), (by (try rw [w121]); (try rw [c406]); first | done | omega), (by (try rw [w121]); (try rw [c409]); first | done | omega), (by (try rw [w121]); (try rw [c411]); first | done | omega), trivial⟩)), trivial⟩
            · skip
              exfalso; omega
          · skip
            obtain ⟨v427, c428⟩ : ∃ v, I145 a0 9 = v := ⟨_, rfl⟩
            have b429 := iv15_9 hS153.1 ta0 c428
            rw [c428] at p170
            obtain ⟨v430, c431⟩ : ∃ v, I145 a0 13 = v := ⟨_, rfl⟩
            rw [c431] at p171
            obtain ⟨v432, c433⟩ : ∃ v, I145 a0 14 = v := ⟨_, rfl⟩
            rw [c433] at p172
            replace hF := hF.pos (by omega)
            replace hP := hP.pos (by omega)
            refine tr_istore_n dX12_readEvent_57 (by decide) (by decide) ?_
            refine tr_iload_n dX12_readEvent_58 rfl ?_
            refine q_iconst dX12_readEvent_59 (by decide) ?_
            intro v434 h435
            refine q_icmp_ne 69 dX12_readEvent_60 (by decide) (fun h436 => ?_) (fun h436 => ?_)
            · skip
              refine tr_aload_n dX12_readEvent_69 rfl ?_
              refine tr_ldcwS dX12_readEvent_70 ld12_272 ?_
              refine tr_iload_n dX12_readEvent_73 rfl ?_
              refine q_iconst dX12_readEvent_74 (by decide) ?_
              intro v437 h438
              refine q_iaddE dX12_readEvent_75 (by intros; omega) ?_
              intro v439 h440
              refine tr_aload_n dX12_readEvent_76 rfl ?_
              refine tr_getR dX12_readEvent_77 fl12_188 (kR15 hS153.1 ta0) d2 ?_
              refine q_getI dX12_readEvent_80 fl12_192 (kR14 hS153.1 ta1) ((hS153.cell ta1 (by decide +kernel)).trans c30) ?_
              refine q_callVi hE (M' := mX12_readPart) (as := [_, _, _]) dX12_readEvent_83 lk12_249 inX12_readPart seX12_readPart myX12_readPart (by decide) ⟨by decide, by decide⟩ rfl (kR15 hS153.1 ta0) (Nat.le_of_ble_eq_true rfl) rfl rfl (by decide) (by decide) (k_X12_readPart hS153.1 ta0 (by decide)) ?_
              rintro v445 cn' K' N' I441 R442 L443 ⟨rfl, rfl, rfl, rfl, g444, p446, w447, -⟩
              have hS448 := hS153.tr g444 (by decide +kernel) (by decide +kernel)
              have c449 : I441 a1 2 = v37 := (g444.cell ta1 (by decide +kernel)).trans c154
              have b450 : 1 ≤ v445.toInt ∧ v445.toInt ≤ 240 := by omega
              clear p446
              have ov451 := w447.over (by rw [c428]; omega)
              obtain ⟨v452, c453⟩ : ∃ v, I441 a0 9 = v := ⟨_, rfl⟩
              have b454 := iv15_9 hS448.1 ta0 c453
              obtain ⟨v455, c456⟩ : ∃ v, I441 a0 13 = v := ⟨_, rfl⟩
              obtain ⟨v457, c458⟩ : ∃ v, I441 a0 14 = v := ⟨_, rfl⟩
              (try rw [c453] at ov451)
              (try rw [c456] at ov451)
              (try rw [c458] at ov451)
              (try rw [c428] at ov451)
              (try rw [c431] at ov451)
              (try rw [c433] at ov451)
              refine tr_istore dX12_readEvent_86 (by decide) (by decide) ?_
              refine tr_aload_n dX12_readEvent_88 rfl ?_
              refine q_getI dX12_readEvent_89 fl12_99 (kR15 hS448.1 ta0) c453 ?_
              refine q_iconst dX12_readEvent_92 (by decide) ?_
              intro v459 h460
              refine q_icmp_ne 97 dX12_readEvent_93 (by decide) (fun h461 => ?_) (fun h461 => ?_)
              · skip
                exfalso; omega
              · skip
                have eF := hF.eq
                have eP := hP.eq
                obtain ⟨v462, c463⟩ : ∃ v, I441 a0 10 = v := ⟨_, rfl⟩
                have b464 := iv15_10 hS448.1 ta0 c463
                obtain ⟨v465, c466⟩ : ∃ v, I441 a0 11 = v := ⟨_, rfl⟩
                obtain ⟨y467, c468⟩ : ∃ v, L443 a0 15 = v := ⟨_, rfl⟩
                obtain ⟨v469, c470⟩ : ∃ v, I441 a0 12 = v := ⟨_, rfl⟩
                obtain ⟨v471, c472⟩ : ∃ v, I441 a0 8 = v := ⟨_, rfl⟩
                have b473 := iv15_8 hS448.1 ta0 c472
                exact tr_vret hZ dX12_readEvent_96 rfl (by decide) (by decide) ⟨rfl, rfl, rfl, rfl, rfl, hS448, (Or.inr (⟨(by (try rw [w121]); first | done | omega), (by (try rw [w121]); (try rw [c453]); first | done | omega), (by (try rw [w121]); (try rw [c456]); first | done | omega), (by (try rw [w121]); (try rw [c458]); first | done | omega), trivial⟩)), trivial⟩
            · skip
              exfalso; omega
          · skip
            obtain ⟨v474, c475⟩ : ∃ v, I145 a0 9 = v := ⟨_, rfl⟩
            have b476 := iv15_9 hS153.1 ta0 c475
            rw [c475] at p176
            obtain ⟨v477, c478⟩ : ∃ v, I145 a0 13 = v := ⟨_, rfl⟩
            rw [c478] at p177
            obtain ⟨v479, c480⟩ : ∃ v, I145 a0 14 = v := ⟨_, rfl⟩
            rw [c480] at p178
            replace hF := hF.neg (by omega)
            replace hP := hP.neg (by omega)
            replace hF := hF.pos (by omega)
            replace hP := hP.pos (by omega)
            refine tr_istore_n dX12_readEvent_57 (by decide) (by decide) ?_
            refine tr_iload_n dX12_readEvent_58 rfl ?_
            refine q_iconst dX12_readEvent_59 (by decide) ?_
            intro v481 h482
            refine q_icmp_ne 69 dX12_readEvent_60 (by decide) (fun h483 => ?_) (fun h483 => ?_)
            · skip
              refine tr_aload_n dX12_readEvent_69 rfl ?_
              refine tr_ldcwS dX12_readEvent_70 ld12_272 ?_
              refine tr_iload_n dX12_readEvent_73 rfl ?_
              refine q_iconst dX12_readEvent_74 (by decide) ?_
              intro v484 h485
              refine q_iaddE dX12_readEvent_75 (by intros; omega) ?_
              intro v486 h487
              refine tr_aload_n dX12_readEvent_76 rfl ?_
              refine tr_getR dX12_readEvent_77 fl12_188 (kR15 hS153.1 ta0) d2 ?_
              refine q_getI dX12_readEvent_80 fl12_192 (kR14 hS153.1 ta1) ((hS153.cell ta1 (by decide +kernel)).trans c30) ?_
              refine q_callVi hE (M' := mX12_readPart) (as := [_, _, _]) dX12_readEvent_83 lk12_249 inX12_readPart seX12_readPart myX12_readPart (by decide) ⟨by decide, by decide⟩ rfl (kR15 hS153.1 ta0) (Nat.le_of_ble_eq_true rfl) rfl rfl (by decide) (by decide) (k_X12_readPart hS153.1 ta0 (by decide)) ?_
              rintro v492 cn' K' N' I488 R489 L490 ⟨rfl, rfl, rfl, rfl, g491, p493, w494, -⟩
              have hS495 := hS153.tr g491 (by decide +kernel) (by decide +kernel)
              have c496 : I488 a1 2 = v37 := (g491.cell ta1 (by decide +kernel)).trans c154
              have b497 : 1 ≤ v492.toInt ∧ v492.toInt ≤ 240 := by omega
              clear p493
              have ov498 := w494.over (by rw [c475]; omega)
              obtain ⟨v499, c500⟩ : ∃ v, I488 a0 9 = v := ⟨_, rfl⟩
              have b501 := iv15_9 hS495.1 ta0 c500
              obtain ⟨v502, c503⟩ : ∃ v, I488 a0 13 = v := ⟨_, rfl⟩
              obtain ⟨v504, c505⟩ : ∃ v, I488 a0 14 = v := ⟨_, rfl⟩
              (try rw [c500] at ov498)
              (try rw [c503] at ov498)
              (try rw [c505] at ov498)
              (try rw [c475] at ov498)
              (try rw [c478] at ov498)
              (try rw [c480] at ov498)
              refine tr_istore dX12_readEvent_86 (by decide) (by decide) ?_
              refine tr_aload_n dX12_readEvent_88 rfl ?_
              refine q_getI dX12_readEvent_89 fl12_99 (kR15 hS495.1 ta0) c500 ?_
              refine q_iconst dX12_readEvent_92 (by decide) ?_
              intro v506 h507
              refine q_icmp_ne 97 dX12_readEvent_93 (by decide) (fun h508 => ?_) (fun h508 => ?_)
              · skip
                exfalso; omega
              · skip
                have eF := hF.eq
                have eP := hP.eq
                obtain ⟨v509, c510⟩ : ∃ v, I488 a0 10 = v := ⟨_, rfl⟩
                have b511 := iv15_10 hS495.1 ta0 c510
                obtain ⟨v512, c513⟩ : ∃ v, I488 a0 11 = v := ⟨_, rfl⟩
                obtain ⟨y514, c515⟩ : ∃ v, L490 a0 15 = v := ⟨_, rfl⟩
                obtain ⟨v516, c517⟩ : ∃ v, I488 a0 12 = v := ⟨_, rfl⟩
                obtain ⟨v518, c519⟩ : ∃ v, I488 a0 8 = v := ⟨_, rfl⟩
                have b520 := iv15_8 hS495.1 ta0 c519
                exact tr_vret hZ dX12_readEvent_96 rfl (by decide) (by decide) ⟨rfl, rfl, rfl, rfl, rfl, hS495, (Or.inr (⟨(by (try rw [w121]); first | done | omega), (by (try rw [w121]); (try rw [c500]); first | done | omega), (by (try rw [w121]); (try rw [c503]); first | done | omega), (by (try rw [w121]); (try rw [c505]); first | done | omega), trivial⟩)), trivial⟩
            · skip
              exfalso; omega
        · skip
          exfalso; omega
    · skip
      obtain ⟨v521, c522⟩ : ∃ v, I69 a0 9 = v := ⟨_, rfl⟩
      have b523 := iv15_9 hS77.1 ta0 c522
      rw [c522] at p91
      obtain ⟨v524, c525⟩ : ∃ v, I69 a0 13 = v := ⟨_, rfl⟩
      rw [c525] at p92
      obtain ⟨v526, c527⟩ : ∃ v, I69 a0 14 = v := ⟨_, rfl⟩
      rw [c527] at p93
      have p528 := p61
      unfold Q7M at p528
      replace hF := hF.pos (by omega)
      replace hP := hP.pos (by omega)
      clear p528
      refine tr_iload_n dX12_readEvent_13 rfl ?_
      refine q_iconst dX12_readEvent_14 (by decide) ?_
      intro v529 h530
      refine q_icmp_eq 23 dX12_readEvent_15 (by decide) (fun h531 => ?_) (fun h531 => ?_)
      · skip
        exfalso; omega
      · skip
        refine tr_iload_n dX12_readEvent_18 rfl ?_
        refine q_iconst dX12_readEvent_19 (by decide) ?_
        intro v532 h533
        refine q_icmp_ne 40 dX12_readEvent_20 (by decide) (fun h534 => ?_) (fun h534 => ?_)
        · skip
          refine q_bipush dX12_readEvent_40 (by decide +kernel) ?_
          intro v535 h536
          refine tr_istore_n dX12_readEvent_42 (by decide) (by decide) ?_
          refine tr_aload_n dX12_readEvent_43 rfl ?_
          refine q_iconst dX12_readEvent_44 (by decide) ?_
          intro v537 h538
          refine tr_aload_n dX12_readEvent_45 rfl ?_
          refine tr_getR dX12_readEvent_46 fl12_188 (kR15 hS77.1 ta0) d2 ?_
          refine q_getI dX12_readEvent_49 fl12_192 (kR14 hS77.1 ta1) ((hS77.cell ta1 (by decide +kernel)).trans c30) ?_
          refine q_iconst dX12_readEvent_52 (by decide) ?_
          intro v539 h540
          refine q_isubE dX12_readEvent_53 (by intros; omega) ?_
          intro v541 h542
          refine q_callVi hE (M' := mX12_readWhole) (as := [_, _]) dX12_readEvent_54 lk12_161 inX12_readWhole seX12_readWhole myX12_readWhole (by decide) ⟨by decide, by decide⟩ rfl (kR15 hS77.1 ta0) (Nat.le_of_ble_eq_true rfl) rfl rfl (by decide) (by decide) (k_X12_readWhole hS77.1 ta0) ?_
          rintro v547 cn' K' N' I543 R544 L545 ⟨rfl, rfl, rfl, rfl, g546, p548, w549, -⟩
          have hS550 := hS77.tr g546 (by decide +kernel) (by decide +kernel)
          have c551 : I543 a1 2 = v37 := (g546.cell ta1 (by decide +kernel)).trans c78
          have b552 : 0 ≤ v547.toInt ∧ v547.toInt ≤ 239 := by omega
          clear p548
          have ov553 := w549.over (by rw [c522]; omega)
          obtain ⟨v554, c555⟩ : ∃ v, I543 a0 9 = v := ⟨_, rfl⟩
          have b556 := iv15_9 hS550.1 ta0 c555
          obtain ⟨v557, c558⟩ : ∃ v, I543 a0 13 = v := ⟨_, rfl⟩
          obtain ⟨v559, c560⟩ : ∃ v, I543 a0 14 = v := ⟨_, rfl⟩
          (try rw [c555] at ov553)
          (try rw [c558] at ov553)
          (try rw [c560] at ov553)
          (try rw [c522] at ov553)
          (try rw [c525] at ov553)
          (try rw [c527] at ov553)
          refine tr_istore_n dX12_readEvent_57 (by decide) (by decide) ?_
          refine tr_iload_n dX12_readEvent_58 rfl ?_
          refine q_iconst dX12_readEvent_59 (by decide) ?_
          intro v561 h562
          refine q_icmp_ne 69 dX12_readEvent_60 (by decide) (fun h563 => ?_) (fun h563 => ?_)
          · skip
            refine tr_aload_n dX12_readEvent_69 rfl ?_
            refine tr_ldcwS dX12_readEvent_70 ld12_272 ?_
            refine tr_iload_n dX12_readEvent_73 rfl ?_
            refine q_iconst dX12_readEvent_74 (by decide) ?_
            intro v564 h565
            refine q_iaddE dX12_readEvent_75 (by intros; omega) ?_
            intro v566 h567
            refine tr_aload_n dX12_readEvent_76 rfl ?_
            refine tr_getR dX12_readEvent_77 fl12_188 (kR15 hS550.1 ta0) d2 ?_
            refine q_getI dX12_readEvent_80 fl12_192 (kR14 hS550.1 ta1) ((hS550.cell ta1 (by decide +kernel)).trans c30) ?_
            refine q_callVi hE (M' := mX12_readPart) (as := [_, _, _]) dX12_readEvent_83 lk12_249 inX12_readPart seX12_readPart myX12_readPart (by decide) ⟨by decide, by decide⟩ rfl (kR15 hS550.1 ta0) (Nat.le_of_ble_eq_true rfl) rfl rfl (by decide) (by decide) (k_X12_readPart hS550.1 ta0 (by decide)) ?_
            rintro v572 cn' K' N' I568 R569 L570 ⟨rfl, rfl, rfl, rfl, g571, p573, w574, -⟩
            have hS575 := hS550.tr g571 (by decide +kernel) (by decide +kernel)
            have c576 : I568 a1 2 = v37 := (g571.cell ta1 (by decide +kernel)).trans c551
            have b577 : 1 ≤ v572.toInt ∧ v572.toInt ≤ 240 := by omega
            clear p573
            have ov578 := w574.over (by rw [c555]; omega)
            obtain ⟨v579, c580⟩ : ∃ v, I568 a0 9 = v := ⟨_, rfl⟩
            have b581 := iv15_9 hS575.1 ta0 c580
            obtain ⟨v582, c583⟩ : ∃ v, I568 a0 13 = v := ⟨_, rfl⟩
            obtain ⟨v584, c585⟩ : ∃ v, I568 a0 14 = v := ⟨_, rfl⟩
            (try rw [c580] at ov578)
            (try rw [c583] at ov578)
            (try rw [c585] at ov578)
            (try rw [c555] at ov578)
            (try rw [c558] at ov578)
            (try rw [c560] at ov578)
            refine tr_istore dX12_readEvent_86 (by decide) (by decide) ?_
            refine tr_aload_n dX12_readEvent_88 rfl ?_
            refine q_getI dX12_readEvent_89 fl12_99 (kR15 hS575.1 ta0) c580 ?_
            refine q_iconst dX12_readEvent_92 (by decide) ?_
            intro v586 h587
            refine q_icmp_ne 97 dX12_readEvent_93 (by decide) (fun h588 => ?_) (fun h588 => ?_)
            · skip
              exfalso; omega
            · skip
              have eF := hF.eq
              have eP := hP.eq
              obtain ⟨v589, c590⟩ : ∃ v, I568 a0 10 = v := ⟨_, rfl⟩
              have b591 := iv15_10 hS575.1 ta0 c590
              obtain ⟨v592, c593⟩ : ∃ v, I568 a0 11 = v := ⟨_, rfl⟩
              obtain ⟨y594, c595⟩ : ∃ v, L570 a0 15 = v := ⟨_, rfl⟩
              obtain ⟨v596, c597⟩ : ∃ v, I568 a0 12 = v := ⟨_, rfl⟩
              obtain ⟨v598, c599⟩ : ∃ v, I568 a0 8 = v := ⟨_, rfl⟩
              have b600 := iv15_8 hS575.1 ta0 c599
              exact tr_vret hZ dX12_readEvent_96 rfl (by decide) (by decide) ⟨rfl, rfl, rfl, rfl, rfl, hS575, (Or.inr (⟨(by first | done | omega), (by (try rw [c580]); first | done | omega), (by (try rw [c583]); first | done | omega), (by (try rw [c585]); first | done | omega), trivial⟩)), trivial⟩
          · skip
            exfalso; omega
        · skip
          exfalso; omega
    · skip
      obtain ⟨v601, c602⟩ : ∃ v, I69 a0 9 = v := ⟨_, rfl⟩
      have b603 := iv15_9 hS77.1 ta0 c602
      rw [c602] at p96
      obtain ⟨v604, c605⟩ : ∃ v, I69 a0 13 = v := ⟨_, rfl⟩
      rw [c605] at p97
      obtain ⟨v606, c607⟩ : ∃ v, I69 a0 14 = v := ⟨_, rfl⟩
      rw [c607] at p98
      have p608 := p61
      unfold Q7M at p608
      replace hF := hF.neg (by omega)
      replace hP := hP.neg (by omega)
      replace hF := hF.pos (by omega)
      replace hP := hP.pos (by omega)
      clear p608
      refine tr_iload_n dX12_readEvent_13 rfl ?_
      refine q_iconst dX12_readEvent_14 (by decide) ?_
      intro v609 h610
      refine q_icmp_eq 23 dX12_readEvent_15 (by decide) (fun h611 => ?_) (fun h611 => ?_)
      · skip
        exfalso; omega
      · skip
        refine tr_iload_n dX12_readEvent_18 rfl ?_
        refine q_iconst dX12_readEvent_19 (by decide) ?_
        intro v612 h613
        refine q_icmp_ne 40 dX12_readEvent_20 (by decide) (fun h614 => ?_) (fun h614 => ?_)
        · skip
          refine q_bipush dX12_readEvent_40 (by decide +kernel) ?_
          intro v615 h616
          refine tr_istore_n dX12_readEvent_42 (by decide) (by decide) ?_
          refine tr_aload_n dX12_readEvent_43 rfl ?_
          refine q_iconst dX12_readEvent_44 (by decide) ?_
          intro v617 h618
          refine tr_aload_n dX12_readEvent_45 rfl ?_
          refine tr_getR dX12_readEvent_46 fl12_188 (kR15 hS77.1 ta0) d2 ?_
          refine q_getI dX12_readEvent_49 fl12_192 (kR14 hS77.1 ta1) ((hS77.cell ta1 (by decide +kernel)).trans c30) ?_
          refine q_iconst dX12_readEvent_52 (by decide) ?_
          intro v619 h620
          refine q_isubE dX12_readEvent_53 (by intros; omega) ?_
          intro v621 h622
          refine q_callVi hE (M' := mX12_readWhole) (as := [_, _]) dX12_readEvent_54 lk12_161 inX12_readWhole seX12_readWhole myX12_readWhole (by decide) ⟨by decide, by decide⟩ rfl (kR15 hS77.1 ta0) (Nat.le_of_ble_eq_true rfl) rfl rfl (by decide) (by decide) (k_X12_readWhole hS77.1 ta0) ?_
          rintro v627 cn' K' N' I623 R624 L625 ⟨rfl, rfl, rfl, rfl, g626, p628, w629, -⟩
          have hS630 := hS77.tr g626 (by decide +kernel) (by decide +kernel)
          have c631 : I623 a1 2 = v37 := (g626.cell ta1 (by decide +kernel)).trans c78
          have b632 : 0 ≤ v627.toInt ∧ v627.toInt ≤ 0 := by omega
          clear p628
          have ov633 := w629.over (by rw [c602]; omega)
          obtain ⟨v634, c635⟩ : ∃ v, I623 a0 9 = v := ⟨_, rfl⟩
          have b636 := iv15_9 hS630.1 ta0 c635
          obtain ⟨v637, c638⟩ : ∃ v, I623 a0 13 = v := ⟨_, rfl⟩
          obtain ⟨v639, c640⟩ : ∃ v, I623 a0 14 = v := ⟨_, rfl⟩
          (try rw [c635] at ov633)
          (try rw [c638] at ov633)
          (try rw [c640] at ov633)
          (try rw [c602] at ov633)
          (try rw [c605] at ov633)
          (try rw [c607] at ov633)
          refine tr_istore_n dX12_readEvent_57 (by decide) (by decide) ?_
          refine tr_iload_n dX12_readEvent_58 rfl ?_
          refine q_iconst dX12_readEvent_59 (by decide) ?_
          intro v641 h642
          refine q_icmp_ne 69 dX12_readEvent_60 (by decide) (fun h643 => ?_) (fun h643 => ?_)
          · skip
            refine tr_aload_n dX12_readEvent_69 rfl ?_
            refine tr_ldcwS dX12_readEvent_70 ld12_272 ?_
            refine tr_iload_n dX12_readEvent_73 rfl ?_
            refine q_iconst dX12_readEvent_74 (by decide) ?_
            intro v644 h645
            refine q_iaddE dX12_readEvent_75 (by intros; omega) ?_
            intro v646 h647
            refine tr_aload_n dX12_readEvent_76 rfl ?_
            refine tr_getR dX12_readEvent_77 fl12_188 (kR15 hS630.1 ta0) d2 ?_
            refine q_getI dX12_readEvent_80 fl12_192 (kR14 hS630.1 ta1) ((hS630.cell ta1 (by decide +kernel)).trans c30) ?_
            refine q_callVi hE (M' := mX12_readPart) (as := [_, _, _]) dX12_readEvent_83 lk12_249 inX12_readPart seX12_readPart myX12_readPart (by decide) ⟨by decide, by decide⟩ rfl (kR15 hS630.1 ta0) (Nat.le_of_ble_eq_true rfl) rfl rfl (by decide) (by decide) (k_X12_readPart hS630.1 ta0 (by decide)) ?_
            rintro v652 cn' K' N' I648 R649 L650 ⟨rfl, rfl, rfl, rfl, g651, p653, w654, -⟩
            have hS655 := hS630.tr g651 (by decide +kernel) (by decide +kernel)
            have c656 : I648 a1 2 = v37 := (g651.cell ta1 (by decide +kernel)).trans c631
            have b657 : 1 ≤ v652.toInt ∧ v652.toInt ≤ 1 := by omega
            clear p653
            have ov658 := w654.over (by rw [c635]; omega)
            obtain ⟨v659, c660⟩ : ∃ v, I648 a0 9 = v := ⟨_, rfl⟩
            have b661 := iv15_9 hS655.1 ta0 c660
            obtain ⟨v662, c663⟩ : ∃ v, I648 a0 13 = v := ⟨_, rfl⟩
            obtain ⟨v664, c665⟩ : ∃ v, I648 a0 14 = v := ⟨_, rfl⟩
            (try rw [c660] at ov658)
            (try rw [c663] at ov658)
            (try rw [c665] at ov658)
            (try rw [c635] at ov658)
            (try rw [c638] at ov658)
            (try rw [c640] at ov658)
            refine tr_istore dX12_readEvent_86 (by decide) (by decide) ?_
            refine tr_aload_n dX12_readEvent_88 rfl ?_
            refine q_getI dX12_readEvent_89 fl12_99 (kR15 hS655.1 ta0) c660 ?_
            refine q_iconst dX12_readEvent_92 (by decide) ?_
            intro v666 h667
            refine q_icmp_ne 97 dX12_readEvent_93 (by decide) (fun h668 => ?_) (fun h668 => ?_)
            · skip
              exfalso; omega
            · skip
              have eF := hF.eq
              have eP := hP.eq
              obtain ⟨v669, c670⟩ : ∃ v, I648 a0 10 = v := ⟨_, rfl⟩
              have b671 := iv15_10 hS655.1 ta0 c670
              obtain ⟨v672, c673⟩ : ∃ v, I648 a0 11 = v := ⟨_, rfl⟩
              obtain ⟨y674, c675⟩ : ∃ v, L650 a0 15 = v := ⟨_, rfl⟩
              obtain ⟨v676, c677⟩ : ∃ v, I648 a0 12 = v := ⟨_, rfl⟩
              obtain ⟨v678, c679⟩ : ∃ v, I648 a0 8 = v := ⟨_, rfl⟩
              have b680 := iv15_8 hS655.1 ta0 c679
              exact tr_vret hZ dX12_readEvent_96 rfl (by decide) (by decide) ⟨rfl, rfl, rfl, rfl, rfl, hS655, (Or.inr (⟨(by first | done | omega), (by (try rw [c660]); first | done | omega), (by (try rw [c663]); first | done | omega), (by (try rw [c665]); first | done | omega), trivial⟩)), trivial⟩
          · skip
            exfalso; omega
        · skip
          exfalso; omega
  · skip
    refine tr_aload_n dX12_readEvent_0 rfl ?_
    refine tr_aload_n dX12_readEvent_1 rfl ?_
    refine tr_getR dX12_readEvent_2 fl12_188 (kR15 hS0.1 ta0) d2 ?_
    refine q_getI dX12_readEvent_5 fl12_265 (kR14 hS0.1 ta1) c38 ?_
    refine q_bipush dX12_readEvent_8 (by decide +kernel) ?_
    intro v681 h682
    refine q_callVv hE (M' := mX12_begins) (as := [_, _]) dX12_readEvent_10 lk12_268 inX12_begins seX12_begins myX12_begins (by decide) ⟨by decide, by decide⟩ rfl (kR15 hS0.1 ta0) (Nat.le_of_ble_eq_true rfl) rfl rfl (by decide) (by decide) (fk_X12_begins hS0.1 (gB) (gs) (gQ) ta0 (TxA.kp hT hS0 ta0 rfl rfl rfl (by decide +kernel) (by decide +kernel)) (by (try rw [c4]); first | done | omega) (by (try rw [c4]); first | done | omega) (by (try rw [c9]); first | done | omega) (by (try rw [c13]); first | done | omega) (by (try rw [c16]); first | done | assumption) (by (try rw [c19]); first | done | assumption) (by (try rw [c22]); first | done | assumption) (by (try rw [c26]); first | done | omega) (fun q0 z0 => by obtain rfl := Option.some.inj ((d2).symm.trans z0); (try rw [c30]); first | done | omega) (by first | done | omega) ⟨_, d2⟩) ?_
    rintro cn' K' N' I683 R684 L685 ⟨rfl, rfl, rfl, rfl, g686, dj689, -⟩
    have hM690 : NmM I683 R0 L0 a1 gQ := NmM.kpS hM0 g686 hS0.1 ta1 (by decide +kernel) (by decide +kernel)
    have hS691 := hS0.tr g686 (by decide +kernel) (by decide +kernel)
    have c692 : I683 a1 2 = v37 := (g686.cell ta1 (by decide +kernel)).trans c38
    rcases dj689 with ⟨p693, p694, p695, p696, p697, p698, p699, p700, p701, p702, gl703, -⟩ | ⟨p704, p705, p706, p707, -⟩ | ⟨p708, p709, p710, p711, p712, -⟩
    · skip
      have hL713 := hL0.tr gl703 (by decide +kernel)
      have hM714 : NmM I683 R0 L685 a1 gQ := NmM.kpL hM690 gl703 hS691.1 ta1 (by decide +kernel)
      obtain ⟨v715, c716⟩ : ∃ v, I683 a0 13 = v := ⟨_, rfl⟩
      rw [c716] at p695
      rw [c65] at p695
      obtain ⟨v717, c718⟩ : ∃ v, I683 a0 9 = v := ⟨_, rfl⟩
      have b719 := iv15_9 hS691.1 ta0 c718
      rw [c718] at p696
      rw [c718] at p697
      obtain ⟨v720, c721⟩ : ∃ v, I683 a0 10 = v := ⟨_, rfl⟩
      have b722 := iv15_10 hS691.1 ta0 c721
      rw [c721] at p698
      obtain ⟨v723, c724⟩ : ∃ v, I683 a0 11 = v := ⟨_, rfl⟩
      rw [c724] at p699
      obtain ⟨y725, c726⟩ : ∃ v, L685 a0 15 = v := ⟨_, rfl⟩
      rw [c726] at p700
      obtain ⟨v727, c728⟩ : ∃ v, I683 a0 12 = v := ⟨_, rfl⟩
      rw [c728] at p701
      obtain ⟨v729, c730⟩ : ∃ v, I683 a0 8 = v := ⟨_, rfl⟩
      have b731 := iv15_8 hS691.1 ta0 c730
      rw [c730] at p702
      have p732 := p61
      unfold Q7M at p732
      replace hF := hF.neg (by omega)
      replace hP := hP.neg (by omega)
      replace hF := hF.neg (by omega)
      replace hP := hP.neg (by omega)
      clear p732
      obtain ⟨w733, w734, w735, w736, w737, w738, w739, w740, w741, w742, w743, w744⟩ := lnl_e (B := gB) (Q := gQ) (s := gs) (by omega) (by omega)
      replace hF := hF.to w733 (evF_c0 (B := gB) (Q := gQ) (k := srt gB gs) (s := (tkN gB gs)) (by omega) (by omega))
      replace hP := hP.to w734 (evP_c0 (B := gB) (Q := gQ) (k := srt gB gs) (s := (tkN gB gs)) (by omega) (by omega))
      refine tr_iload_n dX12_readEvent_13 rfl ?_
      refine q_iconst dX12_readEvent_14 (by decide) ?_
      intro v745 h746
      refine q_icmp_eq 23 dX12_readEvent_15 (by decide) (fun h747 => ?_) (fun h747 => ?_)
      · skip
        exfalso; omega
      · skip
        refine tr_iload_n dX12_readEvent_18 rfl ?_
        refine q_iconst dX12_readEvent_19 (by decide) ?_
        intro v748 h749
        refine q_icmp_ne 40 dX12_readEvent_20 (by decide) (fun h750 => ?_) (fun h750 => ?_)
        · skip
          refine q_bipush dX12_readEvent_40 (by decide +kernel) ?_
          intro v751 h752
          refine tr_istore_n dX12_readEvent_42 (by decide) (by decide) ?_
          refine tr_aload_n dX12_readEvent_43 rfl ?_
          refine q_iconst dX12_readEvent_44 (by decide) ?_
          intro v753 h754
          refine tr_aload_n dX12_readEvent_45 rfl ?_
          refine tr_getR dX12_readEvent_46 fl12_188 (kR15 hS691.1 ta0) d2 ?_
          refine q_getI dX12_readEvent_49 fl12_192 (kR14 hS691.1 ta1) ((hS691.cell ta1 (by decide +kernel)).trans c30) ?_
          refine q_iconst dX12_readEvent_52 (by decide) ?_
          intro v755 h756
          refine q_isubE dX12_readEvent_53 (by intros; omega) ?_
          intro v757 h758
          refine q_callVi hE (M' := mX12_readWhole) (as := [_, _]) dX12_readEvent_54 lk12_161 inX12_readWhole seX12_readWhole myX12_readWhole (by decide) ⟨by decide, by decide⟩ rfl (kR15 hS691.1 ta0) (Nat.le_of_ble_eq_true rfl) rfl rfl (by decide) (by decide) (fk_X12_readWhole hS691.1 (gB) ((tkN gB gs)) ta0 (TxA.kp hT hS691 ta0 rfl rfl rfl (by decide +kernel) (by decide +kernel)) (by (try rw [c718]); first | done | omega) (by (try rw [c718]); first | done | omega) (by (try rw [c721]); first | done | omega) (by (try rw [c724]); first | done | omega) (by (try rw [c726]); first | done | assumption) (by (try rw [c728]); first | done | assumption) (by (try rw [c730]); first | done | assumption) (by (try rw [((hS691.cell ta0 (by decide +kernel)).trans c26)]); first | done | omega)) ?_
          rintro v764 cn' K' N' I759 R760 L761 ⟨rfl, rfl, rfl, rfl, g762, dj765, -⟩
          have hM766 : NmM I759 R0 L685 a1 gQ := NmM.kpS hM714 g762 hS691.1 ta1 (by decide +kernel) (by decide +kernel)
          have hS767 := hS691.tr g762 (by decide +kernel) (by decide +kernel)
          have c768 : I759 a1 2 = v37 := (g762.cell ta1 (by decide +kernel)).trans c692
          rcases dj765 with ⟨p769, p770, p771, p772, p773, p774, p775, p776, p777, p778, p779, p780, gl781, -⟩ | ⟨p782, p783, p784, p785, p786, -⟩ | ⟨p787, p788, p789, p790, p791, p792, -⟩
          · skip
            have hL793 := hL713.tr gl781 (by decide +kernel)
            have hM794 : NmM I759 R0 L761 a1 gQ := NmM.kpL hM766 gl781 hS767.1 ta1 (by decide +kernel)
            obtain ⟨v795, c796⟩ : ∃ v, I759 a0 13 = v := ⟨_, rfl⟩
            rw [c796] at p773
            rw [c716] at p773
            obtain ⟨v797, c798⟩ : ∃ v, I759 a0 9 = v := ⟨_, rfl⟩
            have b799 := iv15_9 hS767.1 ta0 c798
            rw [c798] at p774
            rw [c798] at p775
            obtain ⟨v800, c801⟩ : ∃ v, I759 a0 10 = v := ⟨_, rfl⟩
            have b802 := iv15_10 hS767.1 ta0 c801
            rw [c801] at p776
            obtain ⟨v803, c804⟩ : ∃ v, I759 a0 11 = v := ⟨_, rfl⟩
            rw [c804] at p777
            obtain ⟨y805, c806⟩ : ∃ v, L761 a0 15 = v := ⟨_, rfl⟩
            rw [c806] at p778
            obtain ⟨v807, c808⟩ : ∃ v, I759 a0 12 = v := ⟨_, rfl⟩
            rw [c808] at p779
            obtain ⟨v809, c810⟩ : ∃ v, I759 a0 8 = v := ⟨_, rfl⟩
            have b811 := iv15_8 hS767.1 ta0 c810
            rw [c810] at p780
            replace hF := hF.neg (by omega)
            replace hP := hP.neg (by omega)
            replace hF := hF.neg (by omega)
            replace hP := hP.neg (by omega)
            refine tr_istore_n dX12_readEvent_57 (by decide) (by decide) ?_
            refine tr_iload_n dX12_readEvent_58 rfl ?_
            refine q_iconst dX12_readEvent_59 (by decide) ?_
            intro v812 h813
            refine q_icmp_ne 69 dX12_readEvent_60 (by decide) (fun h814 => ?_) (fun h814 => ?_)
            · skip
              refine tr_aload_n dX12_readEvent_69 rfl ?_
              refine tr_ldcwS dX12_readEvent_70 ld12_272 ?_
              refine tr_iload_n dX12_readEvent_73 rfl ?_
              refine q_iconst dX12_readEvent_74 (by decide) ?_
              intro v815 h816
              refine q_iaddE dX12_readEvent_75 (by intros; omega) ?_
              intro v817 h818
              refine tr_aload_n dX12_readEvent_76 rfl ?_
              refine tr_getR dX12_readEvent_77 fl12_188 (kR15 hS767.1 ta0) d2 ?_
              refine q_getI dX12_readEvent_80 fl12_192 (kR14 hS767.1 ta1) ((hS767.cell ta1 (by decide +kernel)).trans c30) ?_
              refine q_callVi hE (M' := mX12_readPart) (as := [_, _, _]) dX12_readEvent_83 lk12_249 inX12_readPart seX12_readPart myX12_readPart (by decide) ⟨by decide, by decide⟩ rfl (kR15 hS767.1 ta0) (Nat.le_of_ble_eq_true rfl) rfl rfl (by decide) (by decide) (fk_X12_readPart hS767.1 (gB) ((tkN gB (tkN gB gs))) ta0 (by decide) (TxA.kp hT hS767 ta0 rfl rfl rfl (by decide +kernel) (by decide +kernel)) (by (try rw [c798]); first | done | omega) (by (try rw [c798]); first | done | omega) (by (try rw [c801]); first | done | omega) (by (try rw [c804]); first | done | omega) (by (try rw [c806]); first | done | assumption) (by (try rw [c808]); first | done | assumption) (by (try rw [c810]); first | done | assumption) (by (try rw [((hS767.cell ta0 (by decide +kernel)).trans c26)]); first | done | omega)) ?_
              rintro v824 cn' K' N' I819 R820 L821 ⟨rfl, rfl, rfl, rfl, g822, dj825, -⟩
              (try rw [pk_25] at dj825)
              have hM826 : NmM I819 R0 L761 a1 gQ := NmM.kpS hM794 g822 hS767.1 ta1 (by decide +kernel) (by decide +kernel)
              have hS827 := hS767.tr g822 (by decide +kernel) (by decide +kernel)
              have c828 : I819 a1 2 = v37 := (g822.cell ta1 (by decide +kernel)).trans c768
              rcases dj825 with ⟨p829, p830, p831, p832, p833, p834, p835, p836, p837, p838, p839, p840, p841, p842, gl843, -⟩ | ⟨p844, p845, p846, p847, p848, -⟩ | ⟨p849, p850, p851, p852, p853, p854, p855, -⟩ | ⟨p856, p857, p858, p859, p860, p861, p862, p863, -⟩
              · skip
                have hL864 := hL793.tr gl843 (by decide +kernel)
                have hM865 : NmM I819 R0 L821 a1 gQ := NmM.kpL hM826 gl843 hS827.1 ta1 (by decide +kernel)
                obtain ⟨v866, c867⟩ : ∃ v, I819 a0 13 = v := ⟨_, rfl⟩
                rw [c867] at p835
                rw [c796] at p835
                obtain ⟨v868, c869⟩ : ∃ v, I819 a0 9 = v := ⟨_, rfl⟩
                have b870 := iv15_9 hS827.1 ta0 c869
                rw [c869] at p836
                rw [c869] at p837
                obtain ⟨v871, c872⟩ : ∃ v, I819 a0 10 = v := ⟨_, rfl⟩
                have b873 := iv15_10 hS827.1 ta0 c872
                rw [c872] at p838
                obtain ⟨v874, c875⟩ : ∃ v, I819 a0 11 = v := ⟨_, rfl⟩
                rw [c875] at p839
                obtain ⟨y876, c877⟩ : ∃ v, L821 a0 15 = v := ⟨_, rfl⟩
                rw [c877] at p840
                obtain ⟨v878, c879⟩ : ∃ v, I819 a0 12 = v := ⟨_, rfl⟩
                rw [c879] at p841
                obtain ⟨v880, c881⟩ : ∃ v, I819 a0 8 = v := ⟨_, rfl⟩
                have b882 := iv15_8 hS827.1 ta0 c881
                rw [c881] at p842
                replace hF := hF.neg (by omega)
                replace hP := hP.neg (by omega)
                replace hF := hF.neg (by omega)
                replace hP := hP.neg (by omega)
                replace hF := hF.neg (by omega)
                replace hP := hP.neg (by omega)
                refine tr_istore dX12_readEvent_86 (by decide) (by decide) ?_
                refine tr_aload_n dX12_readEvent_88 rfl ?_
                refine q_getI dX12_readEvent_89 fl12_99 (kR15 hS827.1 ta0) c869 ?_
                refine q_iconst dX12_readEvent_92 (by decide) ?_
                intro v883 h884
                refine q_icmp_ne 97 dX12_readEvent_93 (by decide) (fun h885 => ?_) (fun h885 => ?_)
                · skip
                  refine tr_aload_n dX12_readEvent_97 rfl ?_
                  refine tr_getR dX12_readEvent_98 fl12_188 (kR15 hS827.1 ta0) d2 ?_
                  refine q_getI dX12_readEvent_101 fl12_265 (kR14 hS827.1 ta1) c828 ?_
                  refine tr_istore dX12_readEvent_104 (by decide) (by decide) ?_
                  refine tr_aload_n dX12_readEvent_106 rfl ?_
                  refine tr_getR dX12_readEvent_107 fl12_188 (kR15 hS827.1 ta0) d2 ?_
                  obtain ⟨a886, d887, ta886⟩ := rf14_11 hW0 ta1
                  refine tr_getR dX12_readEvent_110 fl12_274 (kR14 hS827.1 ta1) d887 ?_
                  refine tr_iload dX12_readEvent_113 rfl ?_
                  refine tr_iload_n dX12_readEvent_115 rfl ?_
                  refine q_iastX dX12_readEvent_116 (kR54 hS827.1 ta886) (ti_in (nR54 hS827.1 ta886) (by omega) (by omega)) hS827 ta886 (by rfl) (hS827.1.putK (m := a1) ta1 d887 (by rw [c828]; exact Int.le_of_eq (ti_nat (by omega)).symm)) ?_
                  intro I892 hS893 e894 f895
                  have c896 : I892 a1 2 = v37 := (f895 _ _ (fun q => by have z := ta1; rw [q.1, ta886] at z; exact absurd z (by decide))).trans c828
                  have c897 : I892 a0 13 = v866 := (f895 _ _ (fun q => by have z := ta0; rw [q.1, ta886] at z; exact absurd z (by decide))).trans c867
                  have c898 : I892 a0 9 = v868 := (f895 _ _ (fun q => by have z := ta0; rw [q.1, ta886] at z; exact absurd z (by decide))).trans c869
                  have c899 : I892 a0 10 = v871 := (f895 _ _ (fun q => by have z := ta0; rw [q.1, ta886] at z; exact absurd z (by decide))).trans c872
                  have c900 : I892 a0 11 = v874 := (f895 _ _ (fun q => by have z := ta0; rw [q.1, ta886] at z; exact absurd z (by decide))).trans c875
                  have c901 : I892 a0 12 = v878 := (f895 _ _ (fun q => by have z := ta0; rw [q.1, ta886] at z; exact absurd z (by decide))).trans c879
                  have c902 : I892 a0 8 = v880 := (f895 _ _ (fun q => by have z := ta0; rw [q.1, ta886] at z; exact absurd z (by decide))).trans c881
                  have hM903 : NmM I892 R0 L821 a1 gQ := NmM.kp1 hM865 f895 ta886 rfl rfl hS827.1 ta1
                  refine tr_aload_n dX12_readEvent_117 rfl ?_
                  refine tr_getR dX12_readEvent_118 fl12_188 (kR15 hS893.1 ta0) d2 ?_
                  obtain ⟨a904, d905, ta904⟩ := rf14_12 hW0 ta1
                  refine tr_getR dX12_readEvent_121 fl12_277 (kR14 hS893.1 ta1) d905 ?_
                  refine tr_iload dX12_readEvent_124 rfl ?_
                  refine tr_iload_n dX12_readEvent_126 rfl ?_
                  refine q_iastX dX12_readEvent_127 (kR55 hS893.1 ta904) (ti_in (nR55 hS893.1 ta904) (by omega) (by omega)) hS893 ta904 (by rfl) (hS893.1.putH (m := a1) ta1 d905 (by rw [c896]; exact Int.le_of_eq (ti_nat (by omega)).symm) (by omega)) ?_
                  intro I910 hS911 e912 f913
                  have c914 : I910 a1 2 = v37 := (f913 _ _ (fun q => by have z := ta1; rw [q.1, ta904] at z; exact absurd z (by decide))).trans c896
                  have c915 : I910 a0 13 = v866 := (f913 _ _ (fun q => by have z := ta0; rw [q.1, ta904] at z; exact absurd z (by decide))).trans c897
                  have c916 : I910 a0 9 = v868 := (f913 _ _ (fun q => by have z := ta0; rw [q.1, ta904] at z; exact absurd z (by decide))).trans c898
                  have c917 : I910 a0 10 = v871 := (f913 _ _ (fun q => by have z := ta0; rw [q.1, ta904] at z; exact absurd z (by decide))).trans c899
                  have c918 : I910 a0 11 = v874 := (f913 _ _ (fun q => by have z := ta0; rw [q.1, ta904] at z; exact absurd z (by decide))).trans c900
                  have c919 : I910 a0 12 = v878 := (f913 _ _ (fun q => by have z := ta0; rw [q.1, ta904] at z; exact absurd z (by decide))).trans c901
                  have c920 : I910 a0 8 = v880 := (f913 _ _ (fun q => by have z := ta0; rw [q.1, ta904] at z; exact absurd z (by decide))).trans c902
                  have c921 : I910 a886 v37.toNatClampNeg = x1 := (f913 _ _ (fun q => by have z := ta886; rw [q.1, ta904] at z; exact absurd z (by decide))).trans e894
                  have hM922 : NmM I910 R0 L821 a1 gQ := NmM.kp1 hM903 f913 ta904 rfl rfl hS893.1 ta1
                  refine tr_aload_n dX12_readEvent_128 rfl ?_
                  refine tr_getR dX12_readEvent_129 fl12_188 (kR15 hS911.1 ta0) d2 ?_
                  obtain ⟨a923, d924, ta923⟩ := rf14_13 hW0 ta1
                  refine tr_getR dX12_readEvent_132 fl12_280 (kR14 hS911.1 ta1) d924 ?_
                  refine tr_iload dX12_readEvent_135 rfl ?_
                  refine tr_iload_n dX12_readEvent_137 rfl ?_
                  refine q_iast dX12_readEvent_138 (kR56 hS911.1 ta923) (ti_in (nR56 hS911.1 ta923) (by omega) (by omega)) hS911 ta923 (by show (0 : Int) ≤ v764.toInt ∧ v764.toInt ≤ (240 : Int); omega) rfl (by rfl) ?_
                  intro I925 hS926 e928 f927
                  have c929 : I925 a1 2 = v37 := (f927 _ _ (fun q => by have z := ta1; rw [q.1, ta923] at z; exact absurd z (by decide))).trans c914
                  have c930 : I925 a0 13 = v866 := (f927 _ _ (fun q => by have z := ta0; rw [q.1, ta923] at z; exact absurd z (by decide))).trans c915
                  have c931 : I925 a0 9 = v868 := (f927 _ _ (fun q => by have z := ta0; rw [q.1, ta923] at z; exact absurd z (by decide))).trans c916
                  have c932 : I925 a0 10 = v871 := (f927 _ _ (fun q => by have z := ta0; rw [q.1, ta923] at z; exact absurd z (by decide))).trans c917
                  have c933 : I925 a0 11 = v874 := (f927 _ _ (fun q => by have z := ta0; rw [q.1, ta923] at z; exact absurd z (by decide))).trans c918
                  have c934 : I925 a0 12 = v878 := (f927 _ _ (fun q => by have z := ta0; rw [q.1, ta923] at z; exact absurd z (by decide))).trans c919
                  have c935 : I925 a0 8 = v880 := (f927 _ _ (fun q => by have z := ta0; rw [q.1, ta923] at z; exact absurd z (by decide))).trans c920
                  have c936 : I925 a886 v37.toNatClampNeg = x1 := (f927 _ _ (fun q => by have z := ta886; rw [q.1, ta923] at z; exact absurd z (by decide))).trans c921
                  have c937 : I925 a904 v37.toNatClampNeg = v751 := (f927 _ _ (fun q => by have z := ta904; rw [q.1, ta923] at z; exact absurd z (by decide))).trans e912
                  have hM938 : NmM I925 R0 L821 a1 gQ := NmM.kp1 hM922 f927 ta923 rfl rfl hS911.1 ta1
                  refine tr_aload_n dX12_readEvent_139 rfl ?_
                  refine tr_getR dX12_readEvent_140 fl12_188 (kR15 hS926.1 ta0) d2 ?_
                  obtain ⟨a939, d940, ta939⟩ := rf14_14 hW0 ta1
                  refine tr_getR dX12_readEvent_143 fl12_283 (kR14 hS926.1 ta1) d940 ?_
                  refine tr_iload dX12_readEvent_146 rfl ?_
                  refine tr_iload dX12_readEvent_148 rfl ?_
                  refine q_iast dX12_readEvent_150 (kR57 hS926.1 ta939) (ti_in (nR57 hS926.1 ta939) (by omega) (by omega)) hS926 ta939 (by show (0 : Int) ≤ v824.toInt ∧ v824.toInt ≤ (240 : Int); omega) rfl (by rfl) ?_
                  intro I941 hS942 e944 f943
                  have c945 : I941 a1 2 = v37 := (f943 _ _ (fun q => by have z := ta1; rw [q.1, ta939] at z; exact absurd z (by decide))).trans c929
                  have c946 : I941 a0 13 = v866 := (f943 _ _ (fun q => by have z := ta0; rw [q.1, ta939] at z; exact absurd z (by decide))).trans c930
                  have c947 : I941 a0 9 = v868 := (f943 _ _ (fun q => by have z := ta0; rw [q.1, ta939] at z; exact absurd z (by decide))).trans c931
                  have c948 : I941 a0 10 = v871 := (f943 _ _ (fun q => by have z := ta0; rw [q.1, ta939] at z; exact absurd z (by decide))).trans c932
                  have c949 : I941 a0 11 = v874 := (f943 _ _ (fun q => by have z := ta0; rw [q.1, ta939] at z; exact absurd z (by decide))).trans c933
                  have c950 : I941 a0 12 = v878 := (f943 _ _ (fun q => by have z := ta0; rw [q.1, ta939] at z; exact absurd z (by decide))).trans c934
                  have c951 : I941 a0 8 = v880 := (f943 _ _ (fun q => by have z := ta0; rw [q.1, ta939] at z; exact absurd z (by decide))).trans c935
                  have c952 : I941 a886 v37.toNatClampNeg = x1 := (f943 _ _ (fun q => by have z := ta886; rw [q.1, ta939] at z; exact absurd z (by decide))).trans c936
                  have c953 : I941 a904 v37.toNatClampNeg = v751 := (f943 _ _ (fun q => by have z := ta904; rw [q.1, ta939] at z; exact absurd z (by decide))).trans c937
                  have hM954 : NmM I941 R0 L821 a1 gQ := NmM.kp1 hM938 f943 ta939 rfl rfl hS926.1 ta1
                  refine tr_aload_n dX12_readEvent_151 rfl ?_
                  refine tr_getR dX12_readEvent_152 fl12_188 (kR15 hS942.1 ta0) d2 ?_
                  refine tr_dup dX12_readEvent_155 rfl ?_
                  refine q_getI dX12_readEvent_156 fl12_265 (kR14 hS942.1 ta1) c945 ?_
                  refine q_iconst dX12_readEvent_159 (by decide) ?_
                  intro v955 h956
                  refine q_iaddE dX12_readEvent_160 (by intros; omega) ?_
                  intro v957 h958
                  refine q_putX dX12_readEvent_161 fl12_265 (kR14 hS942.1 ta1) (Or.inl rfl) hS942 ta1 (by decide +kernel) (hS942.1.putE (i := v37.toNatClampNeg) ta1 d887 d905 (by rw [c945]; exact (ti_nat (by omega)).symm) (by rw [c945]; omega) (by omega) (by rw [c952, c953]; omega)) ?_
                  intro I959 hS960 e961 f962
                  have c963 : I959 a0 13 = v866 := (f962 _ _ (fun q => absurd q.2 (by decide))).trans c946
                  have c964 : I959 a0 9 = v868 := (f962 _ _ (fun q => absurd q.2 (by decide))).trans c947
                  have c965 : I959 a0 10 = v871 := (f962 _ _ (fun q => absurd q.2 (by decide))).trans c948
                  have c966 : I959 a0 11 = v874 := (f962 _ _ (fun q => absurd q.2 (by decide))).trans c949
                  have c967 : I959 a0 12 = v878 := (f962 _ _ (fun q => absurd q.2 (by decide))).trans c950
                  have c968 : I959 a0 8 = v880 := (f962 _ _ (fun q => absurd q.2 (by decide))).trans c951
                  have c969 : I959 a886 v37.toNatClampNeg = x1 := (f962 _ _ (fun q => by have z := ta886; rw [q.1, ta1] at z; exact absurd z (by decide))).trans c952
                  have c970 : I959 a904 v37.toNatClampNeg = v751 := (f962 _ _ (fun q => by have z := ta904; rw [q.1, ta1] at z; exact absurd z (by decide))).trans c953
                  have hM971 : NmM I959 R0 L821 a1 gQ := NmM.kp1 hM954 f962 ta1 rfl rfl hS942.1 ta1
                  have eF := hF.eq
                  have eP := hP.eq
                  have es972 := evS_c0 (B := gB) (Q := gQ) (k := srt gB gs) (s := (tkN gB gs)) (by omega) (by omega)
                  obtain ⟨v973, c974⟩ : ∃ v, I959 a0 14 = v := ⟨_, rfl⟩
                  exact tr_vret hZ dX12_readEvent_164 rfl (by decide) (by decide) ⟨rfl, rfl, rfl, rfl, rfl, hS960, (Or.inl ⟨(by (try rw [w735]); (try rw [es972]); first | done | omega), (fun q0 z0 => by obtain rfl := Option.some.inj ((d2).symm.trans z0); (try rw [w735]); (try rw [es972]); (try rw [((hS960.cell ta1 (by decide +kernel)).trans c30)]); first | done | omega), (fun q0 z0 => by obtain rfl := Option.some.inj ((d2).symm.trans z0); (try rw [w735]); (try rw [es972]); (try rw [((hS960.cell ta1 (by decide +kernel)).trans c34)]); first | done | omega), (fun q0 z0 => by obtain rfl := Option.some.inj ((d2).symm.trans z0); (try rw [w735]); (try rw [es972]); (try rw [e961]); first | done | omega), (fun q0 z0 => by obtain rfl := Option.some.inj ((d2).symm.trans z0); (try rw [w735]); (try rw [es972]); (try rw [((hS960.cell ta1 (by decide +kernel)).trans c42)]); first | done | omega), (fun q0 z0 => by obtain rfl := Option.some.inj ((d2).symm.trans z0); (try rw [w735]); (try rw [es972]); (try rw [((hS960.cell ta1 (by decide +kernel)).trans c46)]); first | done | omega), (fun q0 z0 => by obtain rfl := Option.some.inj ((d2).symm.trans z0); (try rw [w735]); (try rw [es972]); (try rw [((hS960.cell ta1 (by decide +kernel)).trans c50)]); first | done | omega), (fun q0 z0 => by obtain rfl := Option.some.inj ((d2).symm.trans z0); (try rw [w735]); (try rw [es972]); (try rw [((hS960.cell ta1 (by decide +kernel)).trans c54)]); first | done | omega), (fun q0 z0 => by obtain rfl := Option.some.inj ((d2).symm.trans z0); (try rw [w735]); (try rw [es972]); (try rw [((hS960.cell ta1 (by decide +kernel)).trans c58)]); first | done | omega), (by (try rw [w735]); (try rw [es972]); (try rw [c963]); (try rw [c65]); first | done | omega), (by (try rw [w735]); (try rw [es972]); (try rw [c964]); first | done | omega), (by (try rw [w735]); (try rw [es972]); (try rw [c964]); first | done | omega), (by (try rw [w735]); (try rw [es972]); (try rw [c965]); first | done | omega), (by (try rw [w735]); (try rw [es972]); (try rw [c966]); first | done | omega), (by (try rw [w735]); (try rw [es972]); (try rw [c877]); first | done | assumption), (by (try rw [w735]); (try rw [es972]); (try rw [c967]); first | done | assumption), (by (try rw [w735]); (try rw [es972]); (try rw [c968]); first | done | assumption), hL864, (fun b hb => (Option.some.inj (d2.symm.trans hb)) ▸ NmM.ln (NmM.bd (k := srt gB gs) hM971 (by omega) (by omega)) rfl), trivial⟩), trivial⟩
                · skip
                  exfalso; omega
              · skip
                obtain ⟨v975, c976⟩ : ∃ v, I819 a0 9 = v := ⟨_, rfl⟩
                have b977 := iv15_9 hS827.1 ta0 c976
                rw [c976] at p846
                obtain ⟨v978, c979⟩ : ∃ v, I819 a0 13 = v := ⟨_, rfl⟩
                rw [c979] at p847
                obtain ⟨v980, c981⟩ : ∃ v, I819 a0 14 = v := ⟨_, rfl⟩
                rw [c981] at p848
                replace hF := hF.pos (by omega)
                replace hP := hP.pos (by omega)
                refine tr_istore dX12_readEvent_86 (by decide) (by decide) ?_
                refine tr_aload_n dX12_readEvent_88 rfl ?_
                refine q_getI dX12_readEvent_89 fl12_99 (kR15 hS827.1 ta0) c976 ?_
                refine q_iconst dX12_readEvent_92 (by decide) ?_
                intro v982 h983
                refine q_icmp_ne 97 dX12_readEvent_93 (by decide) (fun h984 => ?_) (fun h984 => ?_)
                · skip
                  exfalso; omega
                · skip
                  have eF := hF.eq
                  have eP := hP.eq
                  obtain ⟨v985, c986⟩ : ∃ v, I819 a0 10 = v := ⟨_, rfl⟩
                  have b987 := iv15_10 hS827.1 ta0 c986
                  obtain ⟨v988, c989⟩ : ∃ v, I819 a0 11 = v := ⟨_, rfl⟩
                  obtain ⟨y990, c991⟩ : ∃ v, L821 a0 15 = v := ⟨_, rfl⟩
                  obtain ⟨v992, c993⟩ : ∃ v, I819 a0 12 = v := ⟨_, rfl⟩
                  obtain ⟨v994, c995⟩ : ∃ v, I819 a0 8 = v := ⟨_, rfl⟩
                  have b996 := iv15_8 hS827.1 ta0 c995
                  exact tr_vret hZ dX12_readEvent_96 rfl (by decide) (by decide) ⟨rfl, rfl, rfl, rfl, rfl, hS827, (Or.inr (⟨(by (try rw [w735]); first | done | omega), (by (try rw [w735]); (try rw [c976]); first | done | omega), (by (try rw [w735]); (try rw [c979]); first | done | omega), (by (try rw [w735]); (try rw [c981]); first | done | omega), trivial⟩)), trivial⟩
              · skip
                obtain ⟨v997, c998⟩ : ∃ v, I819 a0 9 = v := ⟨_, rfl⟩
                have b999 := iv15_9 hS827.1 ta0 c998
                rw [c998] at p853
                obtain ⟨v1000, c1001⟩ : ∃ v, I819 a0 13 = v := ⟨_, rfl⟩
                rw [c1001] at p854
                obtain ⟨v1002, c1003⟩ : ∃ v, I819 a0 14 = v := ⟨_, rfl⟩
                rw [c1003] at p855
                replace hF := hF.neg (by omega)
                replace hP := hP.neg (by omega)
                replace hF := hF.pos (by omega)
                replace hP := hP.pos (by omega)
                refine tr_istore dX12_readEvent_86 (by decide) (by decide) ?_
                refine tr_aload_n dX12_readEvent_88 rfl ?_
                refine q_getI dX12_readEvent_89 fl12_99 (kR15 hS827.1 ta0) c998 ?_
                refine q_iconst dX12_readEvent_92 (by decide) ?_
                intro v1004 h1005
                refine q_icmp_ne 97 dX12_readEvent_93 (by decide) (fun h1006 => ?_) (fun h1006 => ?_)
                · skip
                  exfalso; omega
                · skip
                  have eF := hF.eq
                  have eP := hP.eq
                  obtain ⟨v1007, c1008⟩ : ∃ v, I819 a0 10 = v := ⟨_, rfl⟩
                  have b1009 := iv15_10 hS827.1 ta0 c1008
                  obtain ⟨v1010, c1011⟩ : ∃ v, I819 a0 11 = v := ⟨_, rfl⟩
                  obtain ⟨y1012, c1013⟩ : ∃ v, L821 a0 15 = v := ⟨_, rfl⟩
                  obtain ⟨v1014, c1015⟩ : ∃ v, I819 a0 12 = v := ⟨_, rfl⟩
                  obtain ⟨v1016, c1017⟩ : ∃ v, I819 a0 8 = v := ⟨_, rfl⟩
                  have b1018 := iv15_8 hS827.1 ta0 c1017
                  exact tr_vret hZ dX12_readEvent_96 rfl (by decide) (by decide) ⟨rfl, rfl, rfl, rfl, rfl, hS827, (Or.inr (⟨(by (try rw [w735]); first | done | omega), (by (try rw [w735]); (try rw [c998]); first | done | omega), (by (try rw [w735]); (try rw [c1001]); first | done | omega), (by (try rw [w735]); (try rw [c1003]); first | done | omega), trivial⟩)), trivial⟩
              · skip
                obtain ⟨v1019, c1020⟩ : ∃ v, I819 a0 9 = v := ⟨_, rfl⟩
                have b1021 := iv15_9 hS827.1 ta0 c1020
                rw [c1020] at p861
                obtain ⟨v1022, c1023⟩ : ∃ v, I819 a0 13 = v := ⟨_, rfl⟩
                rw [c1023] at p862
                obtain ⟨v1024, c1025⟩ : ∃ v, I819 a0 14 = v := ⟨_, rfl⟩
                rw [c1025] at p863
                replace hF := hF.neg (by omega)
                replace hP := hP.neg (by omega)
                replace hF := hF.neg (by omega)
                replace hP := hP.neg (by omega)
                replace hF := hF.pos (by omega)
                replace hP := hP.pos (by omega)
                refine tr_istore dX12_readEvent_86 (by decide) (by decide) ?_
                refine tr_aload_n dX12_readEvent_88 rfl ?_
                refine q_getI dX12_readEvent_89 fl12_99 (kR15 hS827.1 ta0) c1020 ?_
                refine q_iconst dX12_readEvent_92 (by decide) ?_
                intro v1026 h1027
                refine q_icmp_ne 97 dX12_readEvent_93 (by decide) (fun h1028 => ?_) (fun h1028 => ?_)
                · skip
                  exfalso; omega
                · skip
                  have eF := hF.eq
                  have eP := hP.eq
                  obtain ⟨v1029, c1030⟩ : ∃ v, I819 a0 10 = v := ⟨_, rfl⟩
                  have b1031 := iv15_10 hS827.1 ta0 c1030
                  obtain ⟨v1032, c1033⟩ : ∃ v, I819 a0 11 = v := ⟨_, rfl⟩
                  obtain ⟨y1034, c1035⟩ : ∃ v, L821 a0 15 = v := ⟨_, rfl⟩
                  obtain ⟨v1036, c1037⟩ : ∃ v, I819 a0 12 = v := ⟨_, rfl⟩
                  obtain ⟨v1038, c1039⟩ : ∃ v, I819 a0 8 = v := ⟨_, rfl⟩
                  have b1040 := iv15_8 hS827.1 ta0 c1039
                  exact tr_vret hZ dX12_readEvent_96 rfl (by decide) (by decide) ⟨rfl, rfl, rfl, rfl, rfl, hS827, (Or.inr (⟨(by (try rw [w735]); first | done | omega), (by (try rw [w735]); (try rw [c1020]); first | done | omega), (by (try rw [w735]); (try rw [c1023]); first | done | omega), (by (try rw [w735]); (try rw [c1025]); first | done | omega), trivial⟩)), trivial⟩
            · skip
              exfalso; omega
          · skip
            obtain ⟨v1041, c1042⟩ : ∃ v, I759 a0 9 = v := ⟨_, rfl⟩
            have b1043 := iv15_9 hS767.1 ta0 c1042
            rw [c1042] at p784
            obtain ⟨v1044, c1045⟩ : ∃ v, I759 a0 13 = v := ⟨_, rfl⟩
            rw [c1045] at p785
            obtain ⟨v1046, c1047⟩ : ∃ v, I759 a0 14 = v := ⟨_, rfl⟩
            rw [c1047] at p786
            replace hF := hF.pos (by omega)
            replace hP := hP.pos (by omega)
            refine tr_istore_n dX12_readEvent_57 (by decide) (by decide) ?_
            refine tr_iload_n dX12_readEvent_58 rfl ?_
            refine q_iconst dX12_readEvent_59 (by decide) ?_
            intro v1048 h1049
            refine q_icmp_ne 69 dX12_readEvent_60 (by decide) (fun h1050 => ?_) (fun h1050 => ?_)
            · skip
              refine tr_aload_n dX12_readEvent_69 rfl ?_
              refine tr_ldcwS dX12_readEvent_70 ld12_272 ?_
              refine tr_iload_n dX12_readEvent_73 rfl ?_
              refine q_iconst dX12_readEvent_74 (by decide) ?_
              intro v1051 h1052
              refine q_iaddE dX12_readEvent_75 (by intros; omega) ?_
              intro v1053 h1054
              refine tr_aload_n dX12_readEvent_76 rfl ?_
              refine tr_getR dX12_readEvent_77 fl12_188 (kR15 hS767.1 ta0) d2 ?_
              refine q_getI dX12_readEvent_80 fl12_192 (kR14 hS767.1 ta1) ((hS767.cell ta1 (by decide +kernel)).trans c30) ?_
              refine q_callVi hE (M' := mX12_readPart) (as := [_, _, _]) dX12_readEvent_83 lk12_249 inX12_readPart seX12_readPart myX12_readPart (by decide) ⟨by decide, by decide⟩ rfl (kR15 hS767.1 ta0) (Nat.le_of_ble_eq_true rfl) rfl rfl (by decide) (by decide) (k_X12_readPart hS767.1 ta0 (by decide)) ?_
              rintro v1059 cn' K' N' I1055 R1056 L1057 ⟨rfl, rfl, rfl, rfl, g1058, p1060, w1061, -⟩
              have hS1062 := hS767.tr g1058 (by decide +kernel) (by decide +kernel)
              have c1063 : I1055 a1 2 = v37 := (g1058.cell ta1 (by decide +kernel)).trans c768
              have b1064 : 1 ≤ v1059.toInt ∧ v1059.toInt ≤ 240 := by omega
              clear p1060
              have ov1065 := w1061.over (by rw [c1042]; omega)
              obtain ⟨v1066, c1067⟩ : ∃ v, I1055 a0 9 = v := ⟨_, rfl⟩
              have b1068 := iv15_9 hS1062.1 ta0 c1067
              obtain ⟨v1069, c1070⟩ : ∃ v, I1055 a0 13 = v := ⟨_, rfl⟩
              obtain ⟨v1071, c1072⟩ : ∃ v, I1055 a0 14 = v := ⟨_, rfl⟩
              (try rw [c1067] at ov1065)
              (try rw [c1070] at ov1065)
              (try rw [c1072] at ov1065)
              (try rw [c1042] at ov1065)
              (try rw [c1045] at ov1065)
              (try rw [c1047] at ov1065)
              refine tr_istore dX12_readEvent_86 (by decide) (by decide) ?_
              refine tr_aload_n dX12_readEvent_88 rfl ?_
              refine q_getI dX12_readEvent_89 fl12_99 (kR15 hS1062.1 ta0) c1067 ?_
              refine q_iconst dX12_readEvent_92 (by decide) ?_
              intro v1073 h1074
              refine q_icmp_ne 97 dX12_readEvent_93 (by decide) (fun h1075 => ?_) (fun h1075 => ?_)
              · skip
                exfalso; omega
              · skip
                have eF := hF.eq
                have eP := hP.eq
                obtain ⟨v1076, c1077⟩ : ∃ v, I1055 a0 10 = v := ⟨_, rfl⟩
                have b1078 := iv15_10 hS1062.1 ta0 c1077
                obtain ⟨v1079, c1080⟩ : ∃ v, I1055 a0 11 = v := ⟨_, rfl⟩
                obtain ⟨y1081, c1082⟩ : ∃ v, L1057 a0 15 = v := ⟨_, rfl⟩
                obtain ⟨v1083, c1084⟩ : ∃ v, I1055 a0 12 = v := ⟨_, rfl⟩
                obtain ⟨v1085, c1086⟩ : ∃ v, I1055 a0 8 = v := ⟨_, rfl⟩
                have b1087 := iv15_8 hS1062.1 ta0 c1086
                exact tr_vret hZ dX12_readEvent_96 rfl (by decide) (by decide) ⟨rfl, rfl, rfl, rfl, rfl, hS1062, (Or.inr (⟨(by (try rw [w735]); first | done | omega), (by (try rw [w735]); (try rw [c1067]); first | done | omega), (by (try rw [w735]); (try rw [c1070]); first | done | omega), (by (try rw [w735]); (try rw [c1072]); first | done | omega), trivial⟩)), trivial⟩
            · skip
              exfalso; omega
          · skip
            obtain ⟨v1088, c1089⟩ : ∃ v, I759 a0 9 = v := ⟨_, rfl⟩
            have b1090 := iv15_9 hS767.1 ta0 c1089
            rw [c1089] at p790
            obtain ⟨v1091, c1092⟩ : ∃ v, I759 a0 13 = v := ⟨_, rfl⟩
            rw [c1092] at p791
            obtain ⟨v1093, c1094⟩ : ∃ v, I759 a0 14 = v := ⟨_, rfl⟩
            rw [c1094] at p792
            replace hF := hF.neg (by omega)
            replace hP := hP.neg (by omega)
            replace hF := hF.pos (by omega)
            replace hP := hP.pos (by omega)
            refine tr_istore_n dX12_readEvent_57 (by decide) (by decide) ?_
            refine tr_iload_n dX12_readEvent_58 rfl ?_
            refine q_iconst dX12_readEvent_59 (by decide) ?_
            intro v1095 h1096
            refine q_icmp_ne 69 dX12_readEvent_60 (by decide) (fun h1097 => ?_) (fun h1097 => ?_)
            · skip
              refine tr_aload_n dX12_readEvent_69 rfl ?_
              refine tr_ldcwS dX12_readEvent_70 ld12_272 ?_
              refine tr_iload_n dX12_readEvent_73 rfl ?_
              refine q_iconst dX12_readEvent_74 (by decide) ?_
              intro v1098 h1099
              refine q_iaddE dX12_readEvent_75 (by intros; omega) ?_
              intro v1100 h1101
              refine tr_aload_n dX12_readEvent_76 rfl ?_
              refine tr_getR dX12_readEvent_77 fl12_188 (kR15 hS767.1 ta0) d2 ?_
              refine q_getI dX12_readEvent_80 fl12_192 (kR14 hS767.1 ta1) ((hS767.cell ta1 (by decide +kernel)).trans c30) ?_
              refine q_callVi hE (M' := mX12_readPart) (as := [_, _, _]) dX12_readEvent_83 lk12_249 inX12_readPart seX12_readPart myX12_readPart (by decide) ⟨by decide, by decide⟩ rfl (kR15 hS767.1 ta0) (Nat.le_of_ble_eq_true rfl) rfl rfl (by decide) (by decide) (k_X12_readPart hS767.1 ta0 (by decide)) ?_
              rintro v1106 cn' K' N' I1102 R1103 L1104 ⟨rfl, rfl, rfl, rfl, g1105, p1107, w1108, -⟩
              have hS1109 := hS767.tr g1105 (by decide +kernel) (by decide +kernel)
              have c1110 : I1102 a1 2 = v37 := (g1105.cell ta1 (by decide +kernel)).trans c768
              have b1111 : 1 ≤ v1106.toInt ∧ v1106.toInt ≤ 240 := by omega
              clear p1107
              have ov1112 := w1108.over (by rw [c1089]; omega)
              obtain ⟨v1113, c1114⟩ : ∃ v, I1102 a0 9 = v := ⟨_, rfl⟩
              have b1115 := iv15_9 hS1109.1 ta0 c1114
              obtain ⟨v1116, c1117⟩ : ∃ v, I1102 a0 13 = v := ⟨_, rfl⟩
              obtain ⟨v1118, c1119⟩ : ∃ v, I1102 a0 14 = v := ⟨_, rfl⟩
              (try rw [c1114] at ov1112)
              (try rw [c1117] at ov1112)
              (try rw [c1119] at ov1112)
              (try rw [c1089] at ov1112)
              (try rw [c1092] at ov1112)
              (try rw [c1094] at ov1112)
              refine tr_istore dX12_readEvent_86 (by decide) (by decide) ?_
              refine tr_aload_n dX12_readEvent_88 rfl ?_
              refine q_getI dX12_readEvent_89 fl12_99 (kR15 hS1109.1 ta0) c1114 ?_
              refine q_iconst dX12_readEvent_92 (by decide) ?_
              intro v1120 h1121
              refine q_icmp_ne 97 dX12_readEvent_93 (by decide) (fun h1122 => ?_) (fun h1122 => ?_)
              · skip
                exfalso; omega
              · skip
                have eF := hF.eq
                have eP := hP.eq
                obtain ⟨v1123, c1124⟩ : ∃ v, I1102 a0 10 = v := ⟨_, rfl⟩
                have b1125 := iv15_10 hS1109.1 ta0 c1124
                obtain ⟨v1126, c1127⟩ : ∃ v, I1102 a0 11 = v := ⟨_, rfl⟩
                obtain ⟨y1128, c1129⟩ : ∃ v, L1104 a0 15 = v := ⟨_, rfl⟩
                obtain ⟨v1130, c1131⟩ : ∃ v, I1102 a0 12 = v := ⟨_, rfl⟩
                obtain ⟨v1132, c1133⟩ : ∃ v, I1102 a0 8 = v := ⟨_, rfl⟩
                have b1134 := iv15_8 hS1109.1 ta0 c1133
                exact tr_vret hZ dX12_readEvent_96 rfl (by decide) (by decide) ⟨rfl, rfl, rfl, rfl, rfl, hS1109, (Or.inr (⟨(by (try rw [w735]); first | done | omega), (by (try rw [w735]); (try rw [c1114]); first | done | omega), (by (try rw [w735]); (try rw [c1117]); first | done | omega), (by (try rw [w735]); (try rw [c1119]); first | done | omega), trivial⟩)), trivial⟩
            · skip
              exfalso; omega
        · skip
          exfalso; omega
    · skip
      obtain ⟨v1135, c1136⟩ : ∃ v, I683 a0 9 = v := ⟨_, rfl⟩
      have b1137 := iv15_9 hS691.1 ta0 c1136
      rw [c1136] at p705
      obtain ⟨v1138, c1139⟩ : ∃ v, I683 a0 13 = v := ⟨_, rfl⟩
      rw [c1139] at p706
      obtain ⟨v1140, c1141⟩ : ∃ v, I683 a0 14 = v := ⟨_, rfl⟩
      rw [c1141] at p707
      have p1142 := p61
      unfold Q7M at p1142
      replace hF := hF.pos (by omega)
      replace hP := hP.pos (by omega)
      clear p1142
      refine tr_iload_n dX12_readEvent_13 rfl ?_
      refine q_iconst dX12_readEvent_14 (by decide) ?_
      intro v1143 h1144
      refine q_icmp_eq 23 dX12_readEvent_15 (by decide) (fun h1145 => ?_) (fun h1145 => ?_)
      · skip
        exfalso; omega
      · skip
        refine tr_iload_n dX12_readEvent_18 rfl ?_
        refine q_iconst dX12_readEvent_19 (by decide) ?_
        intro v1146 h1147
        refine q_icmp_ne 40 dX12_readEvent_20 (by decide) (fun h1148 => ?_) (fun h1148 => ?_)
        · skip
          refine q_bipush dX12_readEvent_40 (by decide +kernel) ?_
          intro v1149 h1150
          refine tr_istore_n dX12_readEvent_42 (by decide) (by decide) ?_
          refine tr_aload_n dX12_readEvent_43 rfl ?_
          refine q_iconst dX12_readEvent_44 (by decide) ?_
          intro v1151 h1152
          refine tr_aload_n dX12_readEvent_45 rfl ?_
          refine tr_getR dX12_readEvent_46 fl12_188 (kR15 hS691.1 ta0) d2 ?_
          refine q_getI dX12_readEvent_49 fl12_192 (kR14 hS691.1 ta1) ((hS691.cell ta1 (by decide +kernel)).trans c30) ?_
          refine q_iconst dX12_readEvent_52 (by decide) ?_
          intro v1153 h1154
          refine q_isubE dX12_readEvent_53 (by intros; omega) ?_
          intro v1155 h1156
          refine q_callVi hE (M' := mX12_readWhole) (as := [_, _]) dX12_readEvent_54 lk12_161 inX12_readWhole seX12_readWhole myX12_readWhole (by decide) ⟨by decide, by decide⟩ rfl (kR15 hS691.1 ta0) (Nat.le_of_ble_eq_true rfl) rfl rfl (by decide) (by decide) (k_X12_readWhole hS691.1 ta0) ?_
          rintro v1161 cn' K' N' I1157 R1158 L1159 ⟨rfl, rfl, rfl, rfl, g1160, p1162, w1163, -⟩
          have hS1164 := hS691.tr g1160 (by decide +kernel) (by decide +kernel)
          have c1165 : I1157 a1 2 = v37 := (g1160.cell ta1 (by decide +kernel)).trans c692
          have b1166 : 0 ≤ v1161.toInt ∧ v1161.toInt ≤ 239 := by omega
          clear p1162
          have ov1167 := w1163.over (by rw [c1136]; omega)
          obtain ⟨v1168, c1169⟩ : ∃ v, I1157 a0 9 = v := ⟨_, rfl⟩
          have b1170 := iv15_9 hS1164.1 ta0 c1169
          obtain ⟨v1171, c1172⟩ : ∃ v, I1157 a0 13 = v := ⟨_, rfl⟩
          obtain ⟨v1173, c1174⟩ : ∃ v, I1157 a0 14 = v := ⟨_, rfl⟩
          (try rw [c1169] at ov1167)
          (try rw [c1172] at ov1167)
          (try rw [c1174] at ov1167)
          (try rw [c1136] at ov1167)
          (try rw [c1139] at ov1167)
          (try rw [c1141] at ov1167)
          refine tr_istore_n dX12_readEvent_57 (by decide) (by decide) ?_
          refine tr_iload_n dX12_readEvent_58 rfl ?_
          refine q_iconst dX12_readEvent_59 (by decide) ?_
          intro v1175 h1176
          refine q_icmp_ne 69 dX12_readEvent_60 (by decide) (fun h1177 => ?_) (fun h1177 => ?_)
          · skip
            refine tr_aload_n dX12_readEvent_69 rfl ?_
            refine tr_ldcwS dX12_readEvent_70 ld12_272 ?_
            refine tr_iload_n dX12_readEvent_73 rfl ?_
            refine q_iconst dX12_readEvent_74 (by decide) ?_
            intro v1178 h1179
            refine q_iaddE dX12_readEvent_75 (by intros; omega) ?_
            intro v1180 h1181
            refine tr_aload_n dX12_readEvent_76 rfl ?_
            refine tr_getR dX12_readEvent_77 fl12_188 (kR15 hS1164.1 ta0) d2 ?_
            refine q_getI dX12_readEvent_80 fl12_192 (kR14 hS1164.1 ta1) ((hS1164.cell ta1 (by decide +kernel)).trans c30) ?_
            refine q_callVi hE (M' := mX12_readPart) (as := [_, _, _]) dX12_readEvent_83 lk12_249 inX12_readPart seX12_readPart myX12_readPart (by decide) ⟨by decide, by decide⟩ rfl (kR15 hS1164.1 ta0) (Nat.le_of_ble_eq_true rfl) rfl rfl (by decide) (by decide) (k_X12_readPart hS1164.1 ta0 (by decide)) ?_
            rintro v1186 cn' K' N' I1182 R1183 L1184 ⟨rfl, rfl, rfl, rfl, g1185, p1187, w1188, -⟩
            have hS1189 := hS1164.tr g1185 (by decide +kernel) (by decide +kernel)
            have c1190 : I1182 a1 2 = v37 := (g1185.cell ta1 (by decide +kernel)).trans c1165
            have b1191 : 1 ≤ v1186.toInt ∧ v1186.toInt ≤ 240 := by omega
            clear p1187
            have ov1192 := w1188.over (by rw [c1169]; omega)
            obtain ⟨v1193, c1194⟩ : ∃ v, I1182 a0 9 = v := ⟨_, rfl⟩
            have b1195 := iv15_9 hS1189.1 ta0 c1194
            obtain ⟨v1196, c1197⟩ : ∃ v, I1182 a0 13 = v := ⟨_, rfl⟩
            obtain ⟨v1198, c1199⟩ : ∃ v, I1182 a0 14 = v := ⟨_, rfl⟩
            (try rw [c1194] at ov1192)
            (try rw [c1197] at ov1192)
            (try rw [c1199] at ov1192)
            (try rw [c1169] at ov1192)
            (try rw [c1172] at ov1192)
            (try rw [c1174] at ov1192)
            refine tr_istore dX12_readEvent_86 (by decide) (by decide) ?_
            refine tr_aload_n dX12_readEvent_88 rfl ?_
            refine q_getI dX12_readEvent_89 fl12_99 (kR15 hS1189.1 ta0) c1194 ?_
            refine q_iconst dX12_readEvent_92 (by decide) ?_
            intro v1200 h1201
            refine q_icmp_ne 97 dX12_readEvent_93 (by decide) (fun h1202 => ?_) (fun h1202 => ?_)
            · skip
              exfalso; omega
            · skip
              have eF := hF.eq
              have eP := hP.eq
              obtain ⟨v1203, c1204⟩ : ∃ v, I1182 a0 10 = v := ⟨_, rfl⟩
              have b1205 := iv15_10 hS1189.1 ta0 c1204
              obtain ⟨v1206, c1207⟩ : ∃ v, I1182 a0 11 = v := ⟨_, rfl⟩
              obtain ⟨y1208, c1209⟩ : ∃ v, L1184 a0 15 = v := ⟨_, rfl⟩
              obtain ⟨v1210, c1211⟩ : ∃ v, I1182 a0 12 = v := ⟨_, rfl⟩
              obtain ⟨v1212, c1213⟩ : ∃ v, I1182 a0 8 = v := ⟨_, rfl⟩
              have b1214 := iv15_8 hS1189.1 ta0 c1213
              exact tr_vret hZ dX12_readEvent_96 rfl (by decide) (by decide) ⟨rfl, rfl, rfl, rfl, rfl, hS1189, (Or.inr (⟨(by first | done | omega), (by (try rw [c1194]); first | done | omega), (by (try rw [c1197]); first | done | omega), (by (try rw [c1199]); first | done | omega), trivial⟩)), trivial⟩
          · skip
            exfalso; omega
        · skip
          exfalso; omega
    · skip
      obtain ⟨v1215, c1216⟩ : ∃ v, I683 a0 9 = v := ⟨_, rfl⟩
      have b1217 := iv15_9 hS691.1 ta0 c1216
      rw [c1216] at p710
      obtain ⟨v1218, c1219⟩ : ∃ v, I683 a0 13 = v := ⟨_, rfl⟩
      rw [c1219] at p711
      obtain ⟨v1220, c1221⟩ : ∃ v, I683 a0 14 = v := ⟨_, rfl⟩
      rw [c1221] at p712
      have p1222 := p61
      unfold Q7M at p1222
      replace hF := hF.neg (by omega)
      replace hP := hP.neg (by omega)
      replace hF := hF.pos (by omega)
      replace hP := hP.pos (by omega)
      clear p1222
      refine tr_iload_n dX12_readEvent_13 rfl ?_
      refine q_iconst dX12_readEvent_14 (by decide) ?_
      intro v1223 h1224
      refine q_icmp_eq 23 dX12_readEvent_15 (by decide) (fun h1225 => ?_) (fun h1225 => ?_)
      · skip
        exfalso; omega
      · skip
        refine tr_iload_n dX12_readEvent_18 rfl ?_
        refine q_iconst dX12_readEvent_19 (by decide) ?_
        intro v1226 h1227
        refine q_icmp_ne 40 dX12_readEvent_20 (by decide) (fun h1228 => ?_) (fun h1228 => ?_)
        · skip
          refine q_bipush dX12_readEvent_40 (by decide +kernel) ?_
          intro v1229 h1230
          refine tr_istore_n dX12_readEvent_42 (by decide) (by decide) ?_
          refine tr_aload_n dX12_readEvent_43 rfl ?_
          refine q_iconst dX12_readEvent_44 (by decide) ?_
          intro v1231 h1232
          refine tr_aload_n dX12_readEvent_45 rfl ?_
          refine tr_getR dX12_readEvent_46 fl12_188 (kR15 hS691.1 ta0) d2 ?_
          refine q_getI dX12_readEvent_49 fl12_192 (kR14 hS691.1 ta1) ((hS691.cell ta1 (by decide +kernel)).trans c30) ?_
          refine q_iconst dX12_readEvent_52 (by decide) ?_
          intro v1233 h1234
          refine q_isubE dX12_readEvent_53 (by intros; omega) ?_
          intro v1235 h1236
          refine q_callVi hE (M' := mX12_readWhole) (as := [_, _]) dX12_readEvent_54 lk12_161 inX12_readWhole seX12_readWhole myX12_readWhole (by decide) ⟨by decide, by decide⟩ rfl (kR15 hS691.1 ta0) (Nat.le_of_ble_eq_true rfl) rfl rfl (by decide) (by decide) (k_X12_readWhole hS691.1 ta0) ?_
          rintro v1241 cn' K' N' I1237 R1238 L1239 ⟨rfl, rfl, rfl, rfl, g1240, p1242, w1243, -⟩
          have hS1244 := hS691.tr g1240 (by decide +kernel) (by decide +kernel)
          have c1245 : I1237 a1 2 = v37 := (g1240.cell ta1 (by decide +kernel)).trans c692
          have b1246 : 0 ≤ v1241.toInt ∧ v1241.toInt ≤ 0 := by omega
          clear p1242
          have ov1247 := w1243.over (by rw [c1216]; omega)
          obtain ⟨v1248, c1249⟩ : ∃ v, I1237 a0 9 = v := ⟨_, rfl⟩
          have b1250 := iv15_9 hS1244.1 ta0 c1249
          obtain ⟨v1251, c1252⟩ : ∃ v, I1237 a0 13 = v := ⟨_, rfl⟩
          obtain ⟨v1253, c1254⟩ : ∃ v, I1237 a0 14 = v := ⟨_, rfl⟩
          (try rw [c1249] at ov1247)
          (try rw [c1252] at ov1247)
          (try rw [c1254] at ov1247)
          (try rw [c1216] at ov1247)
          (try rw [c1219] at ov1247)
          (try rw [c1221] at ov1247)
          refine tr_istore_n dX12_readEvent_57 (by decide) (by decide) ?_
          refine tr_iload_n dX12_readEvent_58 rfl ?_
          refine q_iconst dX12_readEvent_59 (by decide) ?_
          intro v1255 h1256
          refine q_icmp_ne 69 dX12_readEvent_60 (by decide) (fun h1257 => ?_) (fun h1257 => ?_)
          · skip
            refine tr_aload_n dX12_readEvent_69 rfl ?_
            refine tr_ldcwS dX12_readEvent_70 ld12_272 ?_
            refine tr_iload_n dX12_readEvent_73 rfl ?_
            refine q_iconst dX12_readEvent_74 (by decide) ?_
            intro v1258 h1259
            refine q_iaddE dX12_readEvent_75 (by intros; omega) ?_
            intro v1260 h1261
            refine tr_aload_n dX12_readEvent_76 rfl ?_
            refine tr_getR dX12_readEvent_77 fl12_188 (kR15 hS1244.1 ta0) d2 ?_
            refine q_getI dX12_readEvent_80 fl12_192 (kR14 hS1244.1 ta1) ((hS1244.cell ta1 (by decide +kernel)).trans c30) ?_
            refine q_callVi hE (M' := mX12_readPart) (as := [_, _, _]) dX12_readEvent_83 lk12_249 inX12_readPart seX12_readPart myX12_readPart (by decide) ⟨by decide, by decide⟩ rfl (kR15 hS1244.1 ta0) (Nat.le_of_ble_eq_true rfl) rfl rfl (by decide) (by decide) (k_X12_readPart hS1244.1 ta0 (by decide)) ?_
            rintro v1266 cn' K' N' I1262 R1263 L1264 ⟨rfl, rfl, rfl, rfl, g1265, p1267, w1268, -⟩
            have hS1269 := hS1244.tr g1265 (by decide +kernel) (by decide +kernel)
            have c1270 : I1262 a1 2 = v37 := (g1265.cell ta1 (by decide +kernel)).trans c1245
            have b1271 : 1 ≤ v1266.toInt ∧ v1266.toInt ≤ 1 := by omega
            clear p1267
            have ov1272 := w1268.over (by rw [c1249]; omega)
            obtain ⟨v1273, c1274⟩ : ∃ v, I1262 a0 9 = v := ⟨_, rfl⟩
            have b1275 := iv15_9 hS1269.1 ta0 c1274
            obtain ⟨v1276, c1277⟩ : ∃ v, I1262 a0 13 = v := ⟨_, rfl⟩
            obtain ⟨v1278, c1279⟩ : ∃ v, I1262 a0 14 = v := ⟨_, rfl⟩
            (try rw [c1274] at ov1272)
            (try rw [c1277] at ov1272)
            (try rw [c1279] at ov1272)
            (try rw [c1249] at ov1272)
            (try rw [c1252] at ov1272)
            (try rw [c1254] at ov1272)
            refine tr_istore dX12_readEvent_86 (by decide) (by decide) ?_
            refine tr_aload_n dX12_readEvent_88 rfl ?_
            refine q_getI dX12_readEvent_89 fl12_99 (kR15 hS1269.1 ta0) c1274 ?_
            refine q_iconst dX12_readEvent_92 (by decide) ?_
            intro v1280 h1281
            refine q_icmp_ne 97 dX12_readEvent_93 (by decide) (fun h1282 => ?_) (fun h1282 => ?_)
            · skip
              exfalso; omega
            · skip
              have eF := hF.eq
              have eP := hP.eq
              obtain ⟨v1283, c1284⟩ : ∃ v, I1262 a0 10 = v := ⟨_, rfl⟩
              have b1285 := iv15_10 hS1269.1 ta0 c1284
              obtain ⟨v1286, c1287⟩ : ∃ v, I1262 a0 11 = v := ⟨_, rfl⟩
              obtain ⟨y1288, c1289⟩ : ∃ v, L1264 a0 15 = v := ⟨_, rfl⟩
              obtain ⟨v1290, c1291⟩ : ∃ v, I1262 a0 12 = v := ⟨_, rfl⟩
              obtain ⟨v1292, c1293⟩ : ∃ v, I1262 a0 8 = v := ⟨_, rfl⟩
              have b1294 := iv15_8 hS1269.1 ta0 c1293
              exact tr_vret hZ dX12_readEvent_96 rfl (by decide) (by decide) ⟨rfl, rfl, rfl, rfl, rfl, hS1269, (Or.inr (⟨(by first | done | omega), (by (try rw [c1274]); first | done | omega), (by (try rw [c1277]); first | done | omega), (by (try rw [c1279]); first | done | omega), trivial⟩)), trivial⟩
          · skip
            exfalso; omega
        · skip
          exfalso; omega
  · skip
    refine tr_aload_n dX12_readEvent_0 rfl ?_
    refine tr_aload_n dX12_readEvent_1 rfl ?_
    refine tr_getR dX12_readEvent_2 fl12_188 (kR15 hS0.1 ta0) d2 ?_
    refine q_getI dX12_readEvent_5 fl12_265 (kR14 hS0.1 ta1) c38 ?_
    refine q_bipush dX12_readEvent_8 (by decide +kernel) ?_
    intro v1295 h1296
    refine q_callVv hE (M' := mX12_begins) (as := [_, _]) dX12_readEvent_10 lk12_268 inX12_begins seX12_begins myX12_begins (by decide) ⟨by decide, by decide⟩ rfl (kR15 hS0.1 ta0) (Nat.le_of_ble_eq_true rfl) rfl rfl (by decide) (by decide) (fk_X12_begins hS0.1 (gB) (gs) (gQ) ta0 (TxA.kp hT hS0 ta0 rfl rfl rfl (by decide +kernel) (by decide +kernel)) (by (try rw [c4]); first | done | omega) (by (try rw [c4]); first | done | omega) (by (try rw [c9]); first | done | omega) (by (try rw [c13]); first | done | omega) (by (try rw [c16]); first | done | assumption) (by (try rw [c19]); first | done | assumption) (by (try rw [c22]); first | done | assumption) (by (try rw [c26]); first | done | omega) (fun q0 z0 => by obtain rfl := Option.some.inj ((d2).symm.trans z0); (try rw [c30]); first | done | omega) (by first | done | omega) ⟨_, d2⟩) ?_
    rintro cn' K' N' I1297 R1298 L1299 ⟨rfl, rfl, rfl, rfl, g1300, dj1303, -⟩
    have hM1304 : NmM I1297 R0 L0 a1 gQ := NmM.kpS hM0 g1300 hS0.1 ta1 (by decide +kernel) (by decide +kernel)
    have hS1305 := hS0.tr g1300 (by decide +kernel) (by decide +kernel)
    have c1306 : I1297 a1 2 = v37 := (g1300.cell ta1 (by decide +kernel)).trans c38
    rcases dj1303 with ⟨p1307, p1308, p1309, p1310, p1311, p1312, p1313, p1314, p1315, p1316, gl1317, -⟩ | ⟨p1318, p1319, p1320, p1321, -⟩ | ⟨p1322, p1323, p1324, p1325, p1326, -⟩
    · skip
      have hL1327 := hL0.tr gl1317 (by decide +kernel)
      have hM1328 : NmM I1297 R0 L1299 a1 gQ := NmM.kpL hM1304 gl1317 hS1305.1 ta1 (by decide +kernel)
      obtain ⟨v1329, c1330⟩ : ∃ v, I1297 a0 13 = v := ⟨_, rfl⟩
      rw [c1330] at p1309
      rw [c65] at p1309
      obtain ⟨v1331, c1332⟩ : ∃ v, I1297 a0 9 = v := ⟨_, rfl⟩
      have b1333 := iv15_9 hS1305.1 ta0 c1332
      rw [c1332] at p1310
      rw [c1332] at p1311
      obtain ⟨v1334, c1335⟩ : ∃ v, I1297 a0 10 = v := ⟨_, rfl⟩
      have b1336 := iv15_10 hS1305.1 ta0 c1335
      rw [c1335] at p1312
      obtain ⟨v1337, c1338⟩ : ∃ v, I1297 a0 11 = v := ⟨_, rfl⟩
      rw [c1338] at p1313
      obtain ⟨y1339, c1340⟩ : ∃ v, L1299 a0 15 = v := ⟨_, rfl⟩
      rw [c1340] at p1314
      obtain ⟨v1341, c1342⟩ : ∃ v, I1297 a0 12 = v := ⟨_, rfl⟩
      rw [c1342] at p1315
      obtain ⟨v1343, c1344⟩ : ∃ v, I1297 a0 8 = v := ⟨_, rfl⟩
      have b1345 := iv15_8 hS1305.1 ta0 c1344
      rw [c1344] at p1316
      have p1346 := p61
      unfold Q7M at p1346
      replace hF := hF.neg (by omega)
      replace hP := hP.neg (by omega)
      replace hF := hF.neg (by omega)
      replace hP := hP.neg (by omega)
      clear p1346
      obtain ⟨w1347, w1348, w1349, w1350, w1351, w1352, w1353, w1354, w1355, w1356, w1357, w1358⟩ := lnl_e (B := gB) (Q := gQ) (s := gs) (by omega) (by omega)
      replace hF := hF.to w1347 (evF_c2 (B := gB) (Q := gQ) (k := srt gB gs) (s := (tkN gB gs)) (by omega))
      replace hP := hP.to w1348 (evP_c2 (B := gB) (Q := gQ) (k := srt gB gs) (s := (tkN gB gs)) (by omega))
      refine tr_iload_n dX12_readEvent_13 rfl ?_
      refine q_iconst dX12_readEvent_14 (by decide) ?_
      intro v1359 h1360
      refine q_icmp_eq 23 dX12_readEvent_15 (by decide) (fun h1361 => ?_) (fun h1361 => ?_)
      · skip
        refine tr_aload_n dX12_readEvent_23 rfl ?_
        refine q_iconst dX12_readEvent_24 (by decide) ?_
        intro v1362 h1363
        refine tr_aload_n dX12_readEvent_25 rfl ?_
        refine tr_getR dX12_readEvent_26 fl12_188 (kR15 hS1305.1 ta0) d2 ?_
        refine q_getI dX12_readEvent_29 fl12_263 (kR14 hS1305.1 ta1) ((hS1305.cell ta1 (by decide +kernel)).trans c34) ?_
        refine q_iconst dX12_readEvent_32 (by decide) ?_
        intro v1364 h1365
        refine q_isubE dX12_readEvent_33 (by intros; omega) ?_
        intro v1366 h1367
        refine q_callVi hE (M' := mX12_readWhole) (as := [_, _]) dX12_readEvent_34 lk12_161 inX12_readWhole seX12_readWhole myX12_readWhole (by decide) ⟨by decide, by decide⟩ rfl (kR15 hS1305.1 ta0) (Nat.le_of_ble_eq_true rfl) rfl rfl (by decide) (by decide) (fk_X12_readWhole hS1305.1 (gB) ((tkN gB gs)) ta0 (TxA.kp hT hS1305 ta0 rfl rfl rfl (by decide +kernel) (by decide +kernel)) (by (try rw [c1332]); first | done | omega) (by (try rw [c1332]); first | done | omega) (by (try rw [c1335]); first | done | omega) (by (try rw [c1338]); first | done | omega) (by (try rw [c1340]); first | done | assumption) (by (try rw [c1342]); first | done | assumption) (by (try rw [c1344]); first | done | assumption) (by (try rw [((hS1305.cell ta0 (by decide +kernel)).trans c26)]); first | done | omega)) ?_
        rintro v1373 cn' K' N' I1368 R1369 L1370 ⟨rfl, rfl, rfl, rfl, g1371, dj1374, -⟩
        have hM1375 : NmM I1368 R0 L1299 a1 gQ := NmM.kpS hM1328 g1371 hS1305.1 ta1 (by decide +kernel) (by decide +kernel)
        have hS1376 := hS1305.tr g1371 (by decide +kernel) (by decide +kernel)
        have c1377 : I1368 a1 2 = v37 := (g1371.cell ta1 (by decide +kernel)).trans c1306
        rcases dj1374 with ⟨p1378, p1379, p1380, p1381, p1382, p1383, p1384, p1385, p1386, p1387, p1388, p1389, gl1390, -⟩ | ⟨p1391, p1392, p1393, p1394, p1395, -⟩ | ⟨p1396, p1397, p1398, p1399, p1400, p1401, -⟩
        · skip
          have hL1402 := hL1327.tr gl1390 (by decide +kernel)
          have hM1403 : NmM I1368 R0 L1370 a1 gQ := NmM.kpL hM1375 gl1390 hS1376.1 ta1 (by decide +kernel)
          obtain ⟨v1404, c1405⟩ : ∃ v, I1368 a0 13 = v := ⟨_, rfl⟩
          rw [c1405] at p1382
          rw [c1330] at p1382
          obtain ⟨v1406, c1407⟩ : ∃ v, I1368 a0 9 = v := ⟨_, rfl⟩
          have b1408 := iv15_9 hS1376.1 ta0 c1407
          rw [c1407] at p1383
          rw [c1407] at p1384
          obtain ⟨v1409, c1410⟩ : ∃ v, I1368 a0 10 = v := ⟨_, rfl⟩
          have b1411 := iv15_10 hS1376.1 ta0 c1410
          rw [c1410] at p1385
          obtain ⟨v1412, c1413⟩ : ∃ v, I1368 a0 11 = v := ⟨_, rfl⟩
          rw [c1413] at p1386
          obtain ⟨y1414, c1415⟩ : ∃ v, L1370 a0 15 = v := ⟨_, rfl⟩
          rw [c1415] at p1387
          obtain ⟨v1416, c1417⟩ : ∃ v, I1368 a0 12 = v := ⟨_, rfl⟩
          rw [c1417] at p1388
          obtain ⟨v1418, c1419⟩ : ∃ v, I1368 a0 8 = v := ⟨_, rfl⟩
          have b1420 := iv15_8 hS1376.1 ta0 c1419
          rw [c1419] at p1389
          replace hF := hF.neg (by omega)
          replace hP := hP.neg (by omega)
          replace hF := hF.neg (by omega)
          replace hP := hP.neg (by omega)
          refine tr_goto 42 dX12_readEvent_37 (by decide) ?_
          refine tr_istore_n dX12_readEvent_42 (by decide) (by decide) ?_
          refine tr_aload_n dX12_readEvent_43 rfl ?_
          refine q_iconst dX12_readEvent_44 (by decide) ?_
          intro v1421 h1422
          refine tr_aload_n dX12_readEvent_45 rfl ?_
          refine tr_getR dX12_readEvent_46 fl12_188 (kR15 hS1376.1 ta0) d2 ?_
          refine q_getI dX12_readEvent_49 fl12_192 (kR14 hS1376.1 ta1) ((hS1376.cell ta1 (by decide +kernel)).trans c30) ?_
          refine q_iconst dX12_readEvent_52 (by decide) ?_
          intro v1423 h1424
          refine q_isubE dX12_readEvent_53 (by intros; omega) ?_
          intro v1425 h1426
          refine q_callVi hE (M' := mX12_readWhole) (as := [_, _]) dX12_readEvent_54 lk12_161 inX12_readWhole seX12_readWhole myX12_readWhole (by decide) ⟨by decide, by decide⟩ rfl (kR15 hS1376.1 ta0) (Nat.le_of_ble_eq_true rfl) rfl rfl (by decide) (by decide) (fk_X12_readWhole hS1376.1 (gB) ((tkN gB (tkN gB gs))) ta0 (TxA.kp hT hS1376 ta0 rfl rfl rfl (by decide +kernel) (by decide +kernel)) (by (try rw [c1407]); first | done | omega) (by (try rw [c1407]); first | done | omega) (by (try rw [c1410]); first | done | omega) (by (try rw [c1413]); first | done | omega) (by (try rw [c1415]); first | done | assumption) (by (try rw [c1417]); first | done | assumption) (by (try rw [c1419]); first | done | assumption) (by (try rw [((hS1376.cell ta0 (by decide +kernel)).trans c26)]); first | done | omega)) ?_
          rintro v1432 cn' K' N' I1427 R1428 L1429 ⟨rfl, rfl, rfl, rfl, g1430, dj1433, -⟩
          have hM1434 : NmM I1427 R0 L1370 a1 gQ := NmM.kpS hM1403 g1430 hS1376.1 ta1 (by decide +kernel) (by decide +kernel)
          have hS1435 := hS1376.tr g1430 (by decide +kernel) (by decide +kernel)
          have c1436 : I1427 a1 2 = v37 := (g1430.cell ta1 (by decide +kernel)).trans c1377
          rcases dj1433 with ⟨p1437, p1438, p1439, p1440, p1441, p1442, p1443, p1444, p1445, p1446, p1447, p1448, gl1449, -⟩ | ⟨p1450, p1451, p1452, p1453, p1454, -⟩ | ⟨p1455, p1456, p1457, p1458, p1459, p1460, -⟩
          · skip
            have hL1461 := hL1402.tr gl1449 (by decide +kernel)
            have hM1462 : NmM I1427 R0 L1429 a1 gQ := NmM.kpL hM1434 gl1449 hS1435.1 ta1 (by decide +kernel)
            obtain ⟨v1463, c1464⟩ : ∃ v, I1427 a0 13 = v := ⟨_, rfl⟩
            rw [c1464] at p1441
            rw [c1405] at p1441
            obtain ⟨v1465, c1466⟩ : ∃ v, I1427 a0 9 = v := ⟨_, rfl⟩
            have b1467 := iv15_9 hS1435.1 ta0 c1466
            rw [c1466] at p1442
            rw [c1466] at p1443
            obtain ⟨v1468, c1469⟩ : ∃ v, I1427 a0 10 = v := ⟨_, rfl⟩
            have b1470 := iv15_10 hS1435.1 ta0 c1469
            rw [c1469] at p1444
            obtain ⟨v1471, c1472⟩ : ∃ v, I1427 a0 11 = v := ⟨_, rfl⟩
            rw [c1472] at p1445
            obtain ⟨y1473, c1474⟩ : ∃ v, L1429 a0 15 = v := ⟨_, rfl⟩
            rw [c1474] at p1446
            obtain ⟨v1475, c1476⟩ : ∃ v, I1427 a0 12 = v := ⟨_, rfl⟩
            rw [c1476] at p1447
            obtain ⟨v1477, c1478⟩ : ∃ v, I1427 a0 8 = v := ⟨_, rfl⟩
            have b1479 := iv15_8 hS1435.1 ta0 c1478
            rw [c1478] at p1448
            replace hF := hF.neg (by omega)
            replace hP := hP.neg (by omega)
            replace hF := hF.neg (by omega)
            replace hP := hP.neg (by omega)
            refine tr_istore_n dX12_readEvent_57 (by decide) (by decide) ?_
            refine tr_iload_n dX12_readEvent_58 rfl ?_
            refine q_iconst dX12_readEvent_59 (by decide) ?_
            intro v1480 h1481
            refine q_icmp_ne 69 dX12_readEvent_60 (by decide) (fun h1482 => ?_) (fun h1482 => ?_)
            · skip
              refine tr_aload_n dX12_readEvent_69 rfl ?_
              refine tr_ldcwS dX12_readEvent_70 ld12_272 ?_
              refine tr_iload_n dX12_readEvent_73 rfl ?_
              refine q_iconst dX12_readEvent_74 (by decide) ?_
              intro v1483 h1484
              refine q_iaddE dX12_readEvent_75 (by intros; omega) ?_
              intro v1485 h1486
              refine tr_aload_n dX12_readEvent_76 rfl ?_
              refine tr_getR dX12_readEvent_77 fl12_188 (kR15 hS1435.1 ta0) d2 ?_
              refine q_getI dX12_readEvent_80 fl12_192 (kR14 hS1435.1 ta1) ((hS1435.cell ta1 (by decide +kernel)).trans c30) ?_
              refine q_callVi hE (M' := mX12_readPart) (as := [_, _, _]) dX12_readEvent_83 lk12_249 inX12_readPart seX12_readPart myX12_readPart (by decide) ⟨by decide, by decide⟩ rfl (kR15 hS1435.1 ta0) (Nat.le_of_ble_eq_true rfl) rfl rfl (by decide) (by decide) (fk_X12_readPart hS1435.1 (gB) ((tkN gB (tkN gB (tkN gB gs)))) ta0 (by decide) (TxA.kp hT hS1435 ta0 rfl rfl rfl (by decide +kernel) (by decide +kernel)) (by (try rw [c1466]); first | done | omega) (by (try rw [c1466]); first | done | omega) (by (try rw [c1469]); first | done | omega) (by (try rw [c1472]); first | done | omega) (by (try rw [c1474]); first | done | assumption) (by (try rw [c1476]); first | done | assumption) (by (try rw [c1478]); first | done | assumption) (by (try rw [((hS1435.cell ta0 (by decide +kernel)).trans c26)]); first | done | omega)) ?_
              rintro v1492 cn' K' N' I1487 R1488 L1489 ⟨rfl, rfl, rfl, rfl, g1490, dj1493, -⟩
              (try rw [pk_25] at dj1493)
              have hM1494 : NmM I1487 R0 L1429 a1 gQ := NmM.kpS hM1462 g1490 hS1435.1 ta1 (by decide +kernel) (by decide +kernel)
              have hS1495 := hS1435.tr g1490 (by decide +kernel) (by decide +kernel)
              have c1496 : I1487 a1 2 = v37 := (g1490.cell ta1 (by decide +kernel)).trans c1436
              rcases dj1493 with ⟨p1497, p1498, p1499, p1500, p1501, p1502, p1503, p1504, p1505, p1506, p1507, p1508, p1509, p1510, gl1511, -⟩ | ⟨p1512, p1513, p1514, p1515, p1516, -⟩ | ⟨p1517, p1518, p1519, p1520, p1521, p1522, p1523, -⟩ | ⟨p1524, p1525, p1526, p1527, p1528, p1529, p1530, p1531, -⟩
              · skip
                have hL1532 := hL1461.tr gl1511 (by decide +kernel)
                have hM1533 : NmM I1487 R0 L1489 a1 gQ := NmM.kpL hM1494 gl1511 hS1495.1 ta1 (by decide +kernel)
                obtain ⟨v1534, c1535⟩ : ∃ v, I1487 a0 13 = v := ⟨_, rfl⟩
                rw [c1535] at p1503
                rw [c1464] at p1503
                obtain ⟨v1536, c1537⟩ : ∃ v, I1487 a0 9 = v := ⟨_, rfl⟩
                have b1538 := iv15_9 hS1495.1 ta0 c1537
                rw [c1537] at p1504
                rw [c1537] at p1505
                obtain ⟨v1539, c1540⟩ : ∃ v, I1487 a0 10 = v := ⟨_, rfl⟩
                have b1541 := iv15_10 hS1495.1 ta0 c1540
                rw [c1540] at p1506
                obtain ⟨v1542, c1543⟩ : ∃ v, I1487 a0 11 = v := ⟨_, rfl⟩
                rw [c1543] at p1507
                obtain ⟨y1544, c1545⟩ : ∃ v, L1489 a0 15 = v := ⟨_, rfl⟩
                rw [c1545] at p1508
                obtain ⟨v1546, c1547⟩ : ∃ v, I1487 a0 12 = v := ⟨_, rfl⟩
                rw [c1547] at p1509
                obtain ⟨v1548, c1549⟩ : ∃ v, I1487 a0 8 = v := ⟨_, rfl⟩
                have b1550 := iv15_8 hS1495.1 ta0 c1549
                rw [c1549] at p1510
                replace hF := hF.neg (by omega)
                replace hP := hP.neg (by omega)
                replace hF := hF.neg (by omega)
                replace hP := hP.neg (by omega)
                replace hF := hF.neg (by omega)
                replace hP := hP.neg (by omega)
                refine tr_istore dX12_readEvent_86 (by decide) (by decide) ?_
                refine tr_aload_n dX12_readEvent_88 rfl ?_
                refine q_getI dX12_readEvent_89 fl12_99 (kR15 hS1495.1 ta0) c1537 ?_
                refine q_iconst dX12_readEvent_92 (by decide) ?_
                intro v1551 h1552
                refine q_icmp_ne 97 dX12_readEvent_93 (by decide) (fun h1553 => ?_) (fun h1553 => ?_)
                · skip
                  refine tr_aload_n dX12_readEvent_97 rfl ?_
                  refine tr_getR dX12_readEvent_98 fl12_188 (kR15 hS1495.1 ta0) d2 ?_
                  refine q_getI dX12_readEvent_101 fl12_265 (kR14 hS1495.1 ta1) c1496 ?_
                  refine tr_istore dX12_readEvent_104 (by decide) (by decide) ?_
                  refine tr_aload_n dX12_readEvent_106 rfl ?_
                  refine tr_getR dX12_readEvent_107 fl12_188 (kR15 hS1495.1 ta0) d2 ?_
                  obtain ⟨a1554, d1555, ta1554⟩ := rf14_11 hW0 ta1
                  refine tr_getR dX12_readEvent_110 fl12_274 (kR14 hS1495.1 ta1) d1555 ?_
                  refine tr_iload dX12_readEvent_113 rfl ?_
                  refine tr_iload_n dX12_readEvent_115 rfl ?_
                  refine q_iastX dX12_readEvent_116 (kR54 hS1495.1 ta1554) (ti_in (nR54 hS1495.1 ta1554) (by omega) (by omega)) hS1495 ta1554 (by rfl) (hS1495.1.putK (m := a1) ta1 d1555 (by rw [c1496]; exact Int.le_of_eq (ti_nat (by omega)).symm)) ?_
                  intro I1560 hS1561 e1562 f1563
                  have c1564 : I1560 a1 2 = v37 := (f1563 _ _ (fun q => by have z := ta1; rw [q.1, ta1554] at z; exact absurd z (by decide))).trans c1496
                  have c1565 : I1560 a0 13 = v1534 := (f1563 _ _ (fun q => by have z := ta0; rw [q.1, ta1554] at z; exact absurd z (by decide))).trans c1535
                  have c1566 : I1560 a0 9 = v1536 := (f1563 _ _ (fun q => by have z := ta0; rw [q.1, ta1554] at z; exact absurd z (by decide))).trans c1537
                  have c1567 : I1560 a0 10 = v1539 := (f1563 _ _ (fun q => by have z := ta0; rw [q.1, ta1554] at z; exact absurd z (by decide))).trans c1540
                  have c1568 : I1560 a0 11 = v1542 := (f1563 _ _ (fun q => by have z := ta0; rw [q.1, ta1554] at z; exact absurd z (by decide))).trans c1543
                  have c1569 : I1560 a0 12 = v1546 := (f1563 _ _ (fun q => by have z := ta0; rw [q.1, ta1554] at z; exact absurd z (by decide))).trans c1547
                  have c1570 : I1560 a0 8 = v1548 := (f1563 _ _ (fun q => by have z := ta0; rw [q.1, ta1554] at z; exact absurd z (by decide))).trans c1549
                  have hM1571 : NmM I1560 R0 L1489 a1 gQ := NmM.kp1 hM1533 f1563 ta1554 rfl rfl hS1495.1 ta1
                  refine tr_aload_n dX12_readEvent_117 rfl ?_
                  refine tr_getR dX12_readEvent_118 fl12_188 (kR15 hS1561.1 ta0) d2 ?_
                  obtain ⟨a1572, d1573, ta1572⟩ := rf14_12 hW0 ta1
                  refine tr_getR dX12_readEvent_121 fl12_277 (kR14 hS1561.1 ta1) d1573 ?_
                  refine tr_iload dX12_readEvent_124 rfl ?_
                  refine tr_iload_n dX12_readEvent_126 rfl ?_
                  refine q_iastX dX12_readEvent_127 (kR55 hS1561.1 ta1572) (ti_in (nR55 hS1561.1 ta1572) (by omega) (by omega)) hS1561 ta1572 (by rfl) (hS1561.1.putH (m := a1) ta1 d1573 (by rw [c1564]; exact Int.le_of_eq (ti_nat (by omega)).symm) (by omega)) ?_
                  intro I1578 hS1579 e1580 f1581
                  have c1582 : I1578 a1 2 = v37 := (f1581 _ _ (fun q => by have z := ta1; rw [q.1, ta1572] at z; exact absurd z (by decide))).trans c1564
                  have c1583 : I1578 a0 13 = v1534 := (f1581 _ _ (fun q => by have z := ta0; rw [q.1, ta1572] at z; exact absurd z (by decide))).trans c1565
                  have c1584 : I1578 a0 9 = v1536 := (f1581 _ _ (fun q => by have z := ta0; rw [q.1, ta1572] at z; exact absurd z (by decide))).trans c1566
                  have c1585 : I1578 a0 10 = v1539 := (f1581 _ _ (fun q => by have z := ta0; rw [q.1, ta1572] at z; exact absurd z (by decide))).trans c1567
                  have c1586 : I1578 a0 11 = v1542 := (f1581 _ _ (fun q => by have z := ta0; rw [q.1, ta1572] at z; exact absurd z (by decide))).trans c1568
                  have c1587 : I1578 a0 12 = v1546 := (f1581 _ _ (fun q => by have z := ta0; rw [q.1, ta1572] at z; exact absurd z (by decide))).trans c1569
                  have c1588 : I1578 a0 8 = v1548 := (f1581 _ _ (fun q => by have z := ta0; rw [q.1, ta1572] at z; exact absurd z (by decide))).trans c1570
                  have c1589 : I1578 a1554 v37.toNatClampNeg = x1 := (f1581 _ _ (fun q => by have z := ta1554; rw [q.1, ta1572] at z; exact absurd z (by decide))).trans e1562
                  have hM1590 : NmM I1578 R0 L1489 a1 gQ := NmM.kp1 hM1571 f1581 ta1572 rfl rfl hS1561.1 ta1
                  refine tr_aload_n dX12_readEvent_128 rfl ?_
                  refine tr_getR dX12_readEvent_129 fl12_188 (kR15 hS1579.1 ta0) d2 ?_
                  obtain ⟨a1591, d1592, ta1591⟩ := rf14_13 hW0 ta1
                  refine tr_getR dX12_readEvent_132 fl12_280 (kR14 hS1579.1 ta1) d1592 ?_
                  refine tr_iload dX12_readEvent_135 rfl ?_
                  refine tr_iload_n dX12_readEvent_137 rfl ?_
                  refine q_iast dX12_readEvent_138 (kR56 hS1579.1 ta1591) (ti_in (nR56 hS1579.1 ta1591) (by omega) (by omega)) hS1579 ta1591 (by show (0 : Int) ≤ v1432.toInt ∧ v1432.toInt ≤ (240 : Int); omega) rfl (by rfl) ?_
                  intro I1593 hS1594 e1596 f1595
                  have c1597 : I1593 a1 2 = v37 := (f1595 _ _ (fun q => by have z := ta1; rw [q.1, ta1591] at z; exact absurd z (by decide))).trans c1582
                  have c1598 : I1593 a0 13 = v1534 := (f1595 _ _ (fun q => by have z := ta0; rw [q.1, ta1591] at z; exact absurd z (by decide))).trans c1583
                  have c1599 : I1593 a0 9 = v1536 := (f1595 _ _ (fun q => by have z := ta0; rw [q.1, ta1591] at z; exact absurd z (by decide))).trans c1584
                  have c1600 : I1593 a0 10 = v1539 := (f1595 _ _ (fun q => by have z := ta0; rw [q.1, ta1591] at z; exact absurd z (by decide))).trans c1585
                  have c1601 : I1593 a0 11 = v1542 := (f1595 _ _ (fun q => by have z := ta0; rw [q.1, ta1591] at z; exact absurd z (by decide))).trans c1586
                  have c1602 : I1593 a0 12 = v1546 := (f1595 _ _ (fun q => by have z := ta0; rw [q.1, ta1591] at z; exact absurd z (by decide))).trans c1587
                  have c1603 : I1593 a0 8 = v1548 := (f1595 _ _ (fun q => by have z := ta0; rw [q.1, ta1591] at z; exact absurd z (by decide))).trans c1588
                  have c1604 : I1593 a1554 v37.toNatClampNeg = x1 := (f1595 _ _ (fun q => by have z := ta1554; rw [q.1, ta1591] at z; exact absurd z (by decide))).trans c1589
                  have c1605 : I1593 a1572 v37.toNatClampNeg = v1373 := (f1595 _ _ (fun q => by have z := ta1572; rw [q.1, ta1591] at z; exact absurd z (by decide))).trans e1580
                  have hM1606 : NmM I1593 R0 L1489 a1 gQ := NmM.kp1 hM1590 f1595 ta1591 rfl rfl hS1579.1 ta1
                  refine tr_aload_n dX12_readEvent_139 rfl ?_
                  refine tr_getR dX12_readEvent_140 fl12_188 (kR15 hS1594.1 ta0) d2 ?_
                  obtain ⟨a1607, d1608, ta1607⟩ := rf14_14 hW0 ta1
                  refine tr_getR dX12_readEvent_143 fl12_283 (kR14 hS1594.1 ta1) d1608 ?_
                  refine tr_iload dX12_readEvent_146 rfl ?_
                  refine tr_iload dX12_readEvent_148 rfl ?_
                  refine q_iast dX12_readEvent_150 (kR57 hS1594.1 ta1607) (ti_in (nR57 hS1594.1 ta1607) (by omega) (by omega)) hS1594 ta1607 (by show (0 : Int) ≤ v1492.toInt ∧ v1492.toInt ≤ (240 : Int); omega) rfl (by rfl) ?_
                  intro I1609 hS1610 e1612 f1611
                  have c1613 : I1609 a1 2 = v37 := (f1611 _ _ (fun q => by have z := ta1; rw [q.1, ta1607] at z; exact absurd z (by decide))).trans c1597
                  have c1614 : I1609 a0 13 = v1534 := (f1611 _ _ (fun q => by have z := ta0; rw [q.1, ta1607] at z; exact absurd z (by decide))).trans c1598
                  have c1615 : I1609 a0 9 = v1536 := (f1611 _ _ (fun q => by have z := ta0; rw [q.1, ta1607] at z; exact absurd z (by decide))).trans c1599
                  have c1616 : I1609 a0 10 = v1539 := (f1611 _ _ (fun q => by have z := ta0; rw [q.1, ta1607] at z; exact absurd z (by decide))).trans c1600
                  have c1617 : I1609 a0 11 = v1542 := (f1611 _ _ (fun q => by have z := ta0; rw [q.1, ta1607] at z; exact absurd z (by decide))).trans c1601
                  have c1618 : I1609 a0 12 = v1546 := (f1611 _ _ (fun q => by have z := ta0; rw [q.1, ta1607] at z; exact absurd z (by decide))).trans c1602
                  have c1619 : I1609 a0 8 = v1548 := (f1611 _ _ (fun q => by have z := ta0; rw [q.1, ta1607] at z; exact absurd z (by decide))).trans c1603
                  have c1620 : I1609 a1554 v37.toNatClampNeg = x1 := (f1611 _ _ (fun q => by have z := ta1554; rw [q.1, ta1607] at z; exact absurd z (by decide))).trans c1604
                  have c1621 : I1609 a1572 v37.toNatClampNeg = v1373 := (f1611 _ _ (fun q => by have z := ta1572; rw [q.1, ta1607] at z; exact absurd z (by decide))).trans c1605
                  have hM1622 : NmM I1609 R0 L1489 a1 gQ := NmM.kp1 hM1606 f1611 ta1607 rfl rfl hS1594.1 ta1
                  refine tr_aload_n dX12_readEvent_151 rfl ?_
                  refine tr_getR dX12_readEvent_152 fl12_188 (kR15 hS1610.1 ta0) d2 ?_
                  refine tr_dup dX12_readEvent_155 rfl ?_
                  refine q_getI dX12_readEvent_156 fl12_265 (kR14 hS1610.1 ta1) c1613 ?_
                  refine q_iconst dX12_readEvent_159 (by decide) ?_
                  intro v1623 h1624
                  refine q_iaddE dX12_readEvent_160 (by intros; omega) ?_
                  intro v1625 h1626
                  refine q_putX dX12_readEvent_161 fl12_265 (kR14 hS1610.1 ta1) (Or.inl rfl) hS1610 ta1 (by decide +kernel) (hS1610.1.putE (i := v37.toNatClampNeg) ta1 d1555 d1573 (by rw [c1613]; exact (ti_nat (by omega)).symm) (by rw [c1613]; omega) (by omega) (by rw [c1620, c1621]; omega)) ?_
                  intro I1627 hS1628 e1629 f1630
                  have c1631 : I1627 a0 13 = v1534 := (f1630 _ _ (fun q => absurd q.2 (by decide))).trans c1614
                  have c1632 : I1627 a0 9 = v1536 := (f1630 _ _ (fun q => absurd q.2 (by decide))).trans c1615
                  have c1633 : I1627 a0 10 = v1539 := (f1630 _ _ (fun q => absurd q.2 (by decide))).trans c1616
                  have c1634 : I1627 a0 11 = v1542 := (f1630 _ _ (fun q => absurd q.2 (by decide))).trans c1617
                  have c1635 : I1627 a0 12 = v1546 := (f1630 _ _ (fun q => absurd q.2 (by decide))).trans c1618
                  have c1636 : I1627 a0 8 = v1548 := (f1630 _ _ (fun q => absurd q.2 (by decide))).trans c1619
                  have c1637 : I1627 a1554 v37.toNatClampNeg = x1 := (f1630 _ _ (fun q => by have z := ta1554; rw [q.1, ta1] at z; exact absurd z (by decide))).trans c1620
                  have c1638 : I1627 a1572 v37.toNatClampNeg = v1373 := (f1630 _ _ (fun q => by have z := ta1572; rw [q.1, ta1] at z; exact absurd z (by decide))).trans c1621
                  have hM1639 : NmM I1627 R0 L1489 a1 gQ := NmM.kp1 hM1622 f1630 ta1 rfl rfl hS1610.1 ta1
                  have eF := hF.eq
                  have eP := hP.eq
                  have es1640 := evS_c2 (B := gB) (Q := gQ) (k := srt gB gs) (s := (tkN gB gs)) (by omega)
                  obtain ⟨v1641, c1642⟩ : ∃ v, I1627 a0 14 = v := ⟨_, rfl⟩
                  exact tr_vret hZ dX12_readEvent_164 rfl (by decide) (by decide) ⟨rfl, rfl, rfl, rfl, rfl, hS1628, (Or.inl ⟨(by (try rw [w1349]); (try rw [es1640]); first | done | omega), (fun q0 z0 => by obtain rfl := Option.some.inj ((d2).symm.trans z0); (try rw [w1349]); (try rw [es1640]); (try rw [((hS1628.cell ta1 (by decide +kernel)).trans c30)]); first | done | omega), (fun q0 z0 => by obtain rfl := Option.some.inj ((d2).symm.trans z0); (try rw [w1349]); (try rw [es1640]); (try rw [((hS1628.cell ta1 (by decide +kernel)).trans c34)]); first | done | omega), (fun q0 z0 => by obtain rfl := Option.some.inj ((d2).symm.trans z0); (try rw [w1349]); (try rw [es1640]); (try rw [e1629]); first | done | omega), (fun q0 z0 => by obtain rfl := Option.some.inj ((d2).symm.trans z0); (try rw [w1349]); (try rw [es1640]); (try rw [((hS1628.cell ta1 (by decide +kernel)).trans c42)]); first | done | omega), (fun q0 z0 => by obtain rfl := Option.some.inj ((d2).symm.trans z0); (try rw [w1349]); (try rw [es1640]); (try rw [((hS1628.cell ta1 (by decide +kernel)).trans c46)]); first | done | omega), (fun q0 z0 => by obtain rfl := Option.some.inj ((d2).symm.trans z0); (try rw [w1349]); (try rw [es1640]); (try rw [((hS1628.cell ta1 (by decide +kernel)).trans c50)]); first | done | omega), (fun q0 z0 => by obtain rfl := Option.some.inj ((d2).symm.trans z0); (try rw [w1349]); (try rw [es1640]); (try rw [((hS1628.cell ta1 (by decide +kernel)).trans c54)]); first | done | omega), (fun q0 z0 => by obtain rfl := Option.some.inj ((d2).symm.trans z0); (try rw [w1349]); (try rw [es1640]); (try rw [((hS1628.cell ta1 (by decide +kernel)).trans c58)]); first | done | omega), (by (try rw [w1349]); (try rw [es1640]); (try rw [c1631]); (try rw [c65]); first | done | omega), (by (try rw [w1349]); (try rw [es1640]); (try rw [c1632]); first | done | omega), (by (try rw [w1349]); (try rw [es1640]); (try rw [c1632]); first | done | omega), (by (try rw [w1349]); (try rw [es1640]); (try rw [c1633]); first | done | omega), (by (try rw [w1349]); (try rw [es1640]); (try rw [c1634]); first | done | omega), (by (try rw [w1349]); (try rw [es1640]); (try rw [c1545]); first | done | assumption), (by (try rw [w1349]); (try rw [es1640]); (try rw [c1635]); first | done | assumption), (by (try rw [w1349]); (try rw [es1640]); (try rw [c1636]); first | done | assumption), hL1532, (fun b hb => (Option.some.inj (d2.symm.trans hb)) ▸ NmM.ln (NmM.bd (k := srt gB gs) hM1639 (by omega) (by omega)) rfl), trivial⟩), trivial⟩
                · skip
                  exfalso; omega
              · skip
                obtain ⟨v1643, c1644⟩ : ∃ v, I1487 a0 9 = v := ⟨_, rfl⟩
                have b1645 := iv15_9 hS1495.1 ta0 c1644
                rw [c1644] at p1514
                obtain ⟨v1646, c1647⟩ : ∃ v, I1487 a0 13 = v := ⟨_, rfl⟩
                rw [c1647] at p1515
                obtain ⟨v1648, c1649⟩ : ∃ v, I1487 a0 14 = v := ⟨_, rfl⟩
                rw [c1649] at p1516
                replace hF := hF.pos (by omega)
                replace hP := hP.pos (by omega)
                refine tr_istore dX12_readEvent_86 (by decide) (by decide) ?_
                refine tr_aload_n dX12_readEvent_88 rfl ?_
                refine q_getI dX12_readEvent_89 fl12_99 (kR15 hS1495.1 ta0) c1644 ?_
                refine q_iconst dX12_readEvent_92 (by decide) ?_
                intro v1650 h1651
                refine q_icmp_ne 97 dX12_readEvent_93 (by decide) (fun h1652 => ?_) (fun h1652 => ?_)
                · skip
                  exfalso; omega
                · skip
                  have eF := hF.eq
                  have eP := hP.eq
                  obtain ⟨v1653, c1654⟩ : ∃ v, I1487 a0 10 = v := ⟨_, rfl⟩
                  have b1655 := iv15_10 hS1495.1 ta0 c1654
                  obtain ⟨v1656, c1657⟩ : ∃ v, I1487 a0 11 = v := ⟨_, rfl⟩
                  obtain ⟨y1658, c1659⟩ : ∃ v, L1489 a0 15 = v := ⟨_, rfl⟩
                  obtain ⟨v1660, c1661⟩ : ∃ v, I1487 a0 12 = v := ⟨_, rfl⟩
                  obtain ⟨v1662, c1663⟩ : ∃ v, I1487 a0 8 = v := ⟨_, rfl⟩
                  have b1664 := iv15_8 hS1495.1 ta0 c1663
                  exact tr_vret hZ dX12_readEvent_96 rfl (by decide) (by decide) ⟨rfl, rfl, rfl, rfl, rfl, hS1495, (Or.inr (⟨(by (try rw [w1349]); first | done | omega), (by (try rw [w1349]); (try rw [c1644]); first | done | omega), (by (try rw [w1349]); (try rw [c1647]); first | done | omega), (by (try rw [w1349]); (try rw [c1649]); first | done | omega), trivial⟩)), trivial⟩
              · skip
                obtain ⟨v1665, c1666⟩ : ∃ v, I1487 a0 9 = v := ⟨_, rfl⟩
                have b1667 := iv15_9 hS1495.1 ta0 c1666
                rw [c1666] at p1521
                obtain ⟨v1668, c1669⟩ : ∃ v, I1487 a0 13 = v := ⟨_, rfl⟩
                rw [c1669] at p1522
                obtain ⟨v1670, c1671⟩ : ∃ v, I1487 a0 14 = v := ⟨_, rfl⟩
                rw [c1671] at p1523
                replace hF := hF.neg (by omega)
                replace hP := hP.neg (by omega)
                replace hF := hF.pos (by omega)
                replace hP := hP.pos (by omega)
                refine tr_istore dX12_readEvent_86 (by decide) (by decide) ?_
                refine tr_aload_n dX12_readEvent_88 rfl ?_
                refine q_getI dX12_readEvent_89 fl12_99 (kR15 hS1495.1 ta0) c1666 ?_
                refine q_iconst dX12_readEvent_92 (by decide) ?_
                intro v1672 h1673
                refine q_icmp_ne 97 dX12_readEvent_93 (by decide) (fun h1674 => ?_) (fun h1674 => ?_)
                · skip
                  exfalso; omega
                · skip
                  have eF := hF.eq
                  have eP := hP.eq
                  obtain ⟨v1675, c1676⟩ : ∃ v, I1487 a0 10 = v := ⟨_, rfl⟩
                  have b1677 := iv15_10 hS1495.1 ta0 c1676
                  obtain ⟨v1678, c1679⟩ : ∃ v, I1487 a0 11 = v := ⟨_, rfl⟩
                  obtain ⟨y1680, c1681⟩ : ∃ v, L1489 a0 15 = v := ⟨_, rfl⟩
                  obtain ⟨v1682, c1683⟩ : ∃ v, I1487 a0 12 = v := ⟨_, rfl⟩
                  obtain ⟨v1684, c1685⟩ : ∃ v, I1487 a0 8 = v := ⟨_, rfl⟩
                  have b1686 := iv15_8 hS1495.1 ta0 c1685
                  exact tr_vret hZ dX12_readEvent_96 rfl (by decide) (by decide) ⟨rfl, rfl, rfl, rfl, rfl, hS1495, (Or.inr (⟨(by (try rw [w1349]); first | done | omega), (by (try rw [w1349]); (try rw [c1666]); first | done | omega), (by (try rw [w1349]); (try rw [c1669]); first | done | omega), (by (try rw [w1349]); (try rw [c1671]); first | done | omega), trivial⟩)), trivial⟩
              · skip
                obtain ⟨v1687, c1688⟩ : ∃ v, I1487 a0 9 = v := ⟨_, rfl⟩
                have b1689 := iv15_9 hS1495.1 ta0 c1688
                rw [c1688] at p1529
                obtain ⟨v1690, c1691⟩ : ∃ v, I1487 a0 13 = v := ⟨_, rfl⟩
                rw [c1691] at p1530
                obtain ⟨v1692, c1693⟩ : ∃ v, I1487 a0 14 = v := ⟨_, rfl⟩
                rw [c1693] at p1531
                replace hF := hF.neg (by omega)
                replace hP := hP.neg (by omega)
                replace hF := hF.neg (by omega)
                replace hP := hP.neg (by omega)
                replace hF := hF.pos (by omega)
                replace hP := hP.pos (by omega)
                refine tr_istore dX12_readEvent_86 (by decide) (by decide) ?_
                refine tr_aload_n dX12_readEvent_88 rfl ?_
                refine q_getI dX12_readEvent_89 fl12_99 (kR15 hS1495.1 ta0) c1688 ?_
                refine q_iconst dX12_readEvent_92 (by decide) ?_
                intro v1694 h1695
                refine q_icmp_ne 97 dX12_readEvent_93 (by decide) (fun h1696 => ?_) (fun h1696 => ?_)
                · skip
                  exfalso; omega
                · skip
                  have eF := hF.eq
                  have eP := hP.eq
                  obtain ⟨v1697, c1698⟩ : ∃ v, I1487 a0 10 = v := ⟨_, rfl⟩
                  have b1699 := iv15_10 hS1495.1 ta0 c1698
                  obtain ⟨v1700, c1701⟩ : ∃ v, I1487 a0 11 = v := ⟨_, rfl⟩
                  obtain ⟨y1702, c1703⟩ : ∃ v, L1489 a0 15 = v := ⟨_, rfl⟩
                  obtain ⟨v1704, c1705⟩ : ∃ v, I1487 a0 12 = v := ⟨_, rfl⟩
                  obtain ⟨v1706, c1707⟩ : ∃ v, I1487 a0 8 = v := ⟨_, rfl⟩
                  have b1708 := iv15_8 hS1495.1 ta0 c1707
                  exact tr_vret hZ dX12_readEvent_96 rfl (by decide) (by decide) ⟨rfl, rfl, rfl, rfl, rfl, hS1495, (Or.inr (⟨(by (try rw [w1349]); first | done | omega), (by (try rw [w1349]); (try rw [c1688]); first | done | omega), (by (try rw [w1349]); (try rw [c1691]); first | done | omega), (by (try rw [w1349]); (try rw [c1693]); first | done | omega), trivial⟩)), trivial⟩
            · skip
              exfalso; omega
          · skip
            obtain ⟨v1709, c1710⟩ : ∃ v, I1427 a0 9 = v := ⟨_, rfl⟩
            have b1711 := iv15_9 hS1435.1 ta0 c1710
            rw [c1710] at p1452
            obtain ⟨v1712, c1713⟩ : ∃ v, I1427 a0 13 = v := ⟨_, rfl⟩
            rw [c1713] at p1453
            obtain ⟨v1714, c1715⟩ : ∃ v, I1427 a0 14 = v := ⟨_, rfl⟩
            rw [c1715] at p1454
            replace hF := hF.pos (by omega)
            replace hP := hP.pos (by omega)
            refine tr_istore_n dX12_readEvent_57 (by decide) (by decide) ?_
            refine tr_iload_n dX12_readEvent_58 rfl ?_
            refine q_iconst dX12_readEvent_59 (by decide) ?_
            intro v1716 h1717
            refine q_icmp_ne 69 dX12_readEvent_60 (by decide) (fun h1718 => ?_) (fun h1718 => ?_)
            · skip
              refine tr_aload_n dX12_readEvent_69 rfl ?_
              refine tr_ldcwS dX12_readEvent_70 ld12_272 ?_
              refine tr_iload_n dX12_readEvent_73 rfl ?_
              refine q_iconst dX12_readEvent_74 (by decide) ?_
              intro v1719 h1720
              refine q_iaddE dX12_readEvent_75 (by intros; omega) ?_
              intro v1721 h1722
              refine tr_aload_n dX12_readEvent_76 rfl ?_
              refine tr_getR dX12_readEvent_77 fl12_188 (kR15 hS1435.1 ta0) d2 ?_
              refine q_getI dX12_readEvent_80 fl12_192 (kR14 hS1435.1 ta1) ((hS1435.cell ta1 (by decide +kernel)).trans c30) ?_
              refine q_callVi hE (M' := mX12_readPart) (as := [_, _, _]) dX12_readEvent_83 lk12_249 inX12_readPart seX12_readPart myX12_readPart (by decide) ⟨by decide, by decide⟩ rfl (kR15 hS1435.1 ta0) (Nat.le_of_ble_eq_true rfl) rfl rfl (by decide) (by decide) (k_X12_readPart hS1435.1 ta0 (by decide)) ?_
              rintro v1727 cn' K' N' I1723 R1724 L1725 ⟨rfl, rfl, rfl, rfl, g1726, p1728, w1729, -⟩
              have hS1730 := hS1435.tr g1726 (by decide +kernel) (by decide +kernel)
              have c1731 : I1723 a1 2 = v37 := (g1726.cell ta1 (by decide +kernel)).trans c1436
              have b1732 : 1 ≤ v1727.toInt ∧ v1727.toInt ≤ 240 := by omega
              clear p1728
              have ov1733 := w1729.over (by rw [c1710]; omega)
              obtain ⟨v1734, c1735⟩ : ∃ v, I1723 a0 9 = v := ⟨_, rfl⟩
              have b1736 := iv15_9 hS1730.1 ta0 c1735
              obtain ⟨v1737, c1738⟩ : ∃ v, I1723 a0 13 = v := ⟨_, rfl⟩
              obtain ⟨v1739, c1740⟩ : ∃ v, I1723 a0 14 = v := ⟨_, rfl⟩
              (try rw [c1735] at ov1733)
              (try rw [c1738] at ov1733)
              (try rw [c1740] at ov1733)
              (try rw [c1710] at ov1733)
              (try rw [c1713] at ov1733)
              (try rw [c1715] at ov1733)
              refine tr_istore dX12_readEvent_86 (by decide) (by decide) ?_
              refine tr_aload_n dX12_readEvent_88 rfl ?_
              refine q_getI dX12_readEvent_89 fl12_99 (kR15 hS1730.1 ta0) c1735 ?_
              refine q_iconst dX12_readEvent_92 (by decide) ?_
              intro v1741 h1742
              refine q_icmp_ne 97 dX12_readEvent_93 (by decide) (fun h1743 => ?_) (fun h1743 => ?_)
              · skip
                exfalso; omega
              · skip
                have eF := hF.eq
                have eP := hP.eq
                obtain ⟨v1744, c1745⟩ : ∃ v, I1723 a0 10 = v := ⟨_, rfl⟩
                have b1746 := iv15_10 hS1730.1 ta0 c1745
                obtain ⟨v1747, c1748⟩ : ∃ v, I1723 a0 11 = v := ⟨_, rfl⟩
                obtain ⟨y1749, c1750⟩ : ∃ v, L1725 a0 15 = v := ⟨_, rfl⟩
                obtain ⟨v1751, c1752⟩ : ∃ v, I1723 a0 12 = v := ⟨_, rfl⟩
                obtain ⟨v1753, c1754⟩ : ∃ v, I1723 a0 8 = v := ⟨_, rfl⟩
                have b1755 := iv15_8 hS1730.1 ta0 c1754
                exact tr_vret hZ dX12_readEvent_96 rfl (by decide) (by decide) ⟨rfl, rfl, rfl, rfl, rfl, hS1730, (Or.inr (⟨(by (try rw [w1349]); first | done | omega), (by (try rw [w1349]); (try rw [c1735]); first | done | omega), (by (try rw [w1349]); (try rw [c1738]); first | done | omega), (by (try rw [w1349]); (try rw [c1740]); first | done | omega), trivial⟩)), trivial⟩
            · skip
              exfalso; omega
          · skip
            obtain ⟨v1756, c1757⟩ : ∃ v, I1427 a0 9 = v := ⟨_, rfl⟩
            have b1758 := iv15_9 hS1435.1 ta0 c1757
            rw [c1757] at p1458
            obtain ⟨v1759, c1760⟩ : ∃ v, I1427 a0 13 = v := ⟨_, rfl⟩
            rw [c1760] at p1459
            obtain ⟨v1761, c1762⟩ : ∃ v, I1427 a0 14 = v := ⟨_, rfl⟩
            rw [c1762] at p1460
            replace hF := hF.neg (by omega)
            replace hP := hP.neg (by omega)
            replace hF := hF.pos (by omega)
            replace hP := hP.pos (by omega)
            refine tr_istore_n dX12_readEvent_57 (by decide) (by decide) ?_
            refine tr_iload_n dX12_readEvent_58 rfl ?_
            refine q_iconst dX12_readEvent_59 (by decide) ?_
            intro v1763 h1764
            refine q_icmp_ne 69 dX12_readEvent_60 (by decide) (fun h1765 => ?_) (fun h1765 => ?_)
            · skip
              refine tr_aload_n dX12_readEvent_69 rfl ?_
              refine tr_ldcwS dX12_readEvent_70 ld12_272 ?_
              refine tr_iload_n dX12_readEvent_73 rfl ?_
              refine q_iconst dX12_readEvent_74 (by decide) ?_
              intro v1766 h1767
              refine q_iaddE dX12_readEvent_75 (by intros; omega) ?_
              intro v1768 h1769
              refine tr_aload_n dX12_readEvent_76 rfl ?_
              refine tr_getR dX12_readEvent_77 fl12_188 (kR15 hS1435.1 ta0) d2 ?_
              refine q_getI dX12_readEvent_80 fl12_192 (kR14 hS1435.1 ta1) ((hS1435.cell ta1 (by decide +kernel)).trans c30) ?_
              refine q_callVi hE (M' := mX12_readPart) (as := [_, _, _]) dX12_readEvent_83 lk12_249 inX12_readPart seX12_readPart myX12_readPart (by decide) ⟨by decide, by decide⟩ rfl (kR15 hS1435.1 ta0) (Nat.le_of_ble_eq_true rfl) rfl rfl (by decide) (by decide) (k_X12_readPart hS1435.1 ta0 (by decide)) ?_
              rintro v1774 cn' K' N' I1770 R1771 L1772 ⟨rfl, rfl, rfl, rfl, g1773, p1775, w1776, -⟩
              have hS1777 := hS1435.tr g1773 (by decide +kernel) (by decide +kernel)
              have c1778 : I1770 a1 2 = v37 := (g1773.cell ta1 (by decide +kernel)).trans c1436
              have b1779 : 1 ≤ v1774.toInt ∧ v1774.toInt ≤ 240 := by omega
              clear p1775
              have ov1780 := w1776.over (by rw [c1757]; omega)
              obtain ⟨v1781, c1782⟩ : ∃ v, I1770 a0 9 = v := ⟨_, rfl⟩
              have b1783 := iv15_9 hS1777.1 ta0 c1782
              obtain ⟨v1784, c1785⟩ : ∃ v, I1770 a0 13 = v := ⟨_, rfl⟩
              obtain ⟨v1786, c1787⟩ : ∃ v, I1770 a0 14 = v := ⟨_, rfl⟩
              (try rw [c1782] at ov1780)
              (try rw [c1785] at ov1780)
              (try rw [c1787] at ov1780)
              (try rw [c1757] at ov1780)
              (try rw [c1760] at ov1780)
              (try rw [c1762] at ov1780)
              refine tr_istore dX12_readEvent_86 (by decide) (by decide) ?_
              refine tr_aload_n dX12_readEvent_88 rfl ?_
              refine q_getI dX12_readEvent_89 fl12_99 (kR15 hS1777.1 ta0) c1782 ?_
              refine q_iconst dX12_readEvent_92 (by decide) ?_
              intro v1788 h1789
              refine q_icmp_ne 97 dX12_readEvent_93 (by decide) (fun h1790 => ?_) (fun h1790 => ?_)
              · skip
                exfalso; omega
              · skip
                have eF := hF.eq
                have eP := hP.eq
                obtain ⟨v1791, c1792⟩ : ∃ v, I1770 a0 10 = v := ⟨_, rfl⟩
                have b1793 := iv15_10 hS1777.1 ta0 c1792
                obtain ⟨v1794, c1795⟩ : ∃ v, I1770 a0 11 = v := ⟨_, rfl⟩
                obtain ⟨y1796, c1797⟩ : ∃ v, L1772 a0 15 = v := ⟨_, rfl⟩
                obtain ⟨v1798, c1799⟩ : ∃ v, I1770 a0 12 = v := ⟨_, rfl⟩
                obtain ⟨v1800, c1801⟩ : ∃ v, I1770 a0 8 = v := ⟨_, rfl⟩
                have b1802 := iv15_8 hS1777.1 ta0 c1801
                exact tr_vret hZ dX12_readEvent_96 rfl (by decide) (by decide) ⟨rfl, rfl, rfl, rfl, rfl, hS1777, (Or.inr (⟨(by (try rw [w1349]); first | done | omega), (by (try rw [w1349]); (try rw [c1782]); first | done | omega), (by (try rw [w1349]); (try rw [c1785]); first | done | omega), (by (try rw [w1349]); (try rw [c1787]); first | done | omega), trivial⟩)), trivial⟩
            · skip
              exfalso; omega
        · skip
          obtain ⟨v1803, c1804⟩ : ∃ v, I1368 a0 9 = v := ⟨_, rfl⟩
          have b1805 := iv15_9 hS1376.1 ta0 c1804
          rw [c1804] at p1393
          obtain ⟨v1806, c1807⟩ : ∃ v, I1368 a0 13 = v := ⟨_, rfl⟩
          rw [c1807] at p1394
          obtain ⟨v1808, c1809⟩ : ∃ v, I1368 a0 14 = v := ⟨_, rfl⟩
          rw [c1809] at p1395
          replace hF := hF.pos (by omega)
          replace hP := hP.pos (by omega)
          refine tr_goto 42 dX12_readEvent_37 (by decide) ?_
          refine tr_istore_n dX12_readEvent_42 (by decide) (by decide) ?_
          refine tr_aload_n dX12_readEvent_43 rfl ?_
          refine q_iconst dX12_readEvent_44 (by decide) ?_
          intro v1810 h1811
          refine tr_aload_n dX12_readEvent_45 rfl ?_
          refine tr_getR dX12_readEvent_46 fl12_188 (kR15 hS1376.1 ta0) d2 ?_
          refine q_getI dX12_readEvent_49 fl12_192 (kR14 hS1376.1 ta1) ((hS1376.cell ta1 (by decide +kernel)).trans c30) ?_
          refine q_iconst dX12_readEvent_52 (by decide) ?_
          intro v1812 h1813
          refine q_isubE dX12_readEvent_53 (by intros; omega) ?_
          intro v1814 h1815
          refine q_callVi hE (M' := mX12_readWhole) (as := [_, _]) dX12_readEvent_54 lk12_161 inX12_readWhole seX12_readWhole myX12_readWhole (by decide) ⟨by decide, by decide⟩ rfl (kR15 hS1376.1 ta0) (Nat.le_of_ble_eq_true rfl) rfl rfl (by decide) (by decide) (k_X12_readWhole hS1376.1 ta0) ?_
          rintro v1820 cn' K' N' I1816 R1817 L1818 ⟨rfl, rfl, rfl, rfl, g1819, p1821, w1822, -⟩
          have hS1823 := hS1376.tr g1819 (by decide +kernel) (by decide +kernel)
          have c1824 : I1816 a1 2 = v37 := (g1819.cell ta1 (by decide +kernel)).trans c1377
          have b1825 : 0 ≤ v1820.toInt ∧ v1820.toInt ≤ 239 := by omega
          clear p1821
          have ov1826 := w1822.over (by rw [c1804]; omega)
          obtain ⟨v1827, c1828⟩ : ∃ v, I1816 a0 9 = v := ⟨_, rfl⟩
          have b1829 := iv15_9 hS1823.1 ta0 c1828
          obtain ⟨v1830, c1831⟩ : ∃ v, I1816 a0 13 = v := ⟨_, rfl⟩
          obtain ⟨v1832, c1833⟩ : ∃ v, I1816 a0 14 = v := ⟨_, rfl⟩
          (try rw [c1828] at ov1826)
          (try rw [c1831] at ov1826)
          (try rw [c1833] at ov1826)
          (try rw [c1804] at ov1826)
          (try rw [c1807] at ov1826)
          (try rw [c1809] at ov1826)
          refine tr_istore_n dX12_readEvent_57 (by decide) (by decide) ?_
          refine tr_iload_n dX12_readEvent_58 rfl ?_
          refine q_iconst dX12_readEvent_59 (by decide) ?_
          intro v1834 h1835
          refine q_icmp_ne 69 dX12_readEvent_60 (by decide) (fun h1836 => ?_) (fun h1836 => ?_)
          · skip
            refine tr_aload_n dX12_readEvent_69 rfl ?_
            refine tr_ldcwS dX12_readEvent_70 ld12_272 ?_
            refine tr_iload_n dX12_readEvent_73 rfl ?_
            refine q_iconst dX12_readEvent_74 (by decide) ?_
            intro v1837 h1838
            refine q_iaddE dX12_readEvent_75 (by intros; omega) ?_
            intro v1839 h1840
            refine tr_aload_n dX12_readEvent_76 rfl ?_
            refine tr_getR dX12_readEvent_77 fl12_188 (kR15 hS1823.1 ta0) d2 ?_
            refine q_getI dX12_readEvent_80 fl12_192 (kR14 hS1823.1 ta1) ((hS1823.cell ta1 (by decide +kernel)).trans c30) ?_
            refine q_callVi hE (M' := mX12_readPart) (as := [_, _, _]) dX12_readEvent_83 lk12_249 inX12_readPart seX12_readPart myX12_readPart (by decide) ⟨by decide, by decide⟩ rfl (kR15 hS1823.1 ta0) (Nat.le_of_ble_eq_true rfl) rfl rfl (by decide) (by decide) (k_X12_readPart hS1823.1 ta0 (by decide)) ?_
            rintro v1845 cn' K' N' I1841 R1842 L1843 ⟨rfl, rfl, rfl, rfl, g1844, p1846, w1847, -⟩
            have hS1848 := hS1823.tr g1844 (by decide +kernel) (by decide +kernel)
            have c1849 : I1841 a1 2 = v37 := (g1844.cell ta1 (by decide +kernel)).trans c1824
            have b1850 : 1 ≤ v1845.toInt ∧ v1845.toInt ≤ 240 := by omega
            clear p1846
            have ov1851 := w1847.over (by rw [c1828]; omega)
            obtain ⟨v1852, c1853⟩ : ∃ v, I1841 a0 9 = v := ⟨_, rfl⟩
            have b1854 := iv15_9 hS1848.1 ta0 c1853
            obtain ⟨v1855, c1856⟩ : ∃ v, I1841 a0 13 = v := ⟨_, rfl⟩
            obtain ⟨v1857, c1858⟩ : ∃ v, I1841 a0 14 = v := ⟨_, rfl⟩
            (try rw [c1853] at ov1851)
            (try rw [c1856] at ov1851)
            (try rw [c1858] at ov1851)
            (try rw [c1828] at ov1851)
            (try rw [c1831] at ov1851)
            (try rw [c1833] at ov1851)
            refine tr_istore dX12_readEvent_86 (by decide) (by decide) ?_
            refine tr_aload_n dX12_readEvent_88 rfl ?_
            refine q_getI dX12_readEvent_89 fl12_99 (kR15 hS1848.1 ta0) c1853 ?_
            refine q_iconst dX12_readEvent_92 (by decide) ?_
            intro v1859 h1860
            refine q_icmp_ne 97 dX12_readEvent_93 (by decide) (fun h1861 => ?_) (fun h1861 => ?_)
            · skip
              exfalso; omega
            · skip
              have eF := hF.eq
              have eP := hP.eq
              obtain ⟨v1862, c1863⟩ : ∃ v, I1841 a0 10 = v := ⟨_, rfl⟩
              have b1864 := iv15_10 hS1848.1 ta0 c1863
              obtain ⟨v1865, c1866⟩ : ∃ v, I1841 a0 11 = v := ⟨_, rfl⟩
              obtain ⟨y1867, c1868⟩ : ∃ v, L1843 a0 15 = v := ⟨_, rfl⟩
              obtain ⟨v1869, c1870⟩ : ∃ v, I1841 a0 12 = v := ⟨_, rfl⟩
              obtain ⟨v1871, c1872⟩ : ∃ v, I1841 a0 8 = v := ⟨_, rfl⟩
              have b1873 := iv15_8 hS1848.1 ta0 c1872
              exact tr_vret hZ dX12_readEvent_96 rfl (by decide) (by decide) ⟨rfl, rfl, rfl, rfl, rfl, hS1848, (Or.inr (⟨(by (try rw [w1349]); first | done | omega), (by (try rw [w1349]); (try rw [c1853]); first | done | omega), (by (try rw [w1349]); (try rw [c1856]); first | done | omega), (by (try rw [w1349]); (try rw [c1858]); first | done | omega), trivial⟩)), trivial⟩
          · skip
            exfalso; omega
        · skip
          obtain ⟨v1874, c1875⟩ : ∃ v, I1368 a0 9 = v := ⟨_, rfl⟩
          have b1876 := iv15_9 hS1376.1 ta0 c1875
          rw [c1875] at p1399
          obtain ⟨v1877, c1878⟩ : ∃ v, I1368 a0 13 = v := ⟨_, rfl⟩
          rw [c1878] at p1400
          obtain ⟨v1879, c1880⟩ : ∃ v, I1368 a0 14 = v := ⟨_, rfl⟩
          rw [c1880] at p1401
          replace hF := hF.neg (by omega)
          replace hP := hP.neg (by omega)
          replace hF := hF.pos (by omega)
          replace hP := hP.pos (by omega)
          refine tr_goto 42 dX12_readEvent_37 (by decide) ?_
          refine tr_istore_n dX12_readEvent_42 (by decide) (by decide) ?_
          refine tr_aload_n dX12_readEvent_43 rfl ?_
          refine q_iconst dX12_readEvent_44 (by decide) ?_
          intro v1881 h1882
          refine tr_aload_n dX12_readEvent_45 rfl ?_
          refine tr_getR dX12_readEvent_46 fl12_188 (kR15 hS1376.1 ta0) d2 ?_
          refine q_getI dX12_readEvent_49 fl12_192 (kR14 hS1376.1 ta1) ((hS1376.cell ta1 (by decide +kernel)).trans c30) ?_
          refine q_iconst dX12_readEvent_52 (by decide) ?_
          intro v1883 h1884
          refine q_isubE dX12_readEvent_53 (by intros; omega) ?_
          intro v1885 h1886
          refine q_callVi hE (M' := mX12_readWhole) (as := [_, _]) dX12_readEvent_54 lk12_161 inX12_readWhole seX12_readWhole myX12_readWhole (by decide) ⟨by decide, by decide⟩ rfl (kR15 hS1376.1 ta0) (Nat.le_of_ble_eq_true rfl) rfl rfl (by decide) (by decide) (k_X12_readWhole hS1376.1 ta0) ?_
          rintro v1891 cn' K' N' I1887 R1888 L1889 ⟨rfl, rfl, rfl, rfl, g1890, p1892, w1893, -⟩
          have hS1894 := hS1376.tr g1890 (by decide +kernel) (by decide +kernel)
          have c1895 : I1887 a1 2 = v37 := (g1890.cell ta1 (by decide +kernel)).trans c1377
          have b1896 : 0 ≤ v1891.toInt ∧ v1891.toInt ≤ 239 := by omega
          clear p1892
          have ov1897 := w1893.over (by rw [c1875]; omega)
          obtain ⟨v1898, c1899⟩ : ∃ v, I1887 a0 9 = v := ⟨_, rfl⟩
          have b1900 := iv15_9 hS1894.1 ta0 c1899
          obtain ⟨v1901, c1902⟩ : ∃ v, I1887 a0 13 = v := ⟨_, rfl⟩
          obtain ⟨v1903, c1904⟩ : ∃ v, I1887 a0 14 = v := ⟨_, rfl⟩
          (try rw [c1899] at ov1897)
          (try rw [c1902] at ov1897)
          (try rw [c1904] at ov1897)
          (try rw [c1875] at ov1897)
          (try rw [c1878] at ov1897)
          (try rw [c1880] at ov1897)
          refine tr_istore_n dX12_readEvent_57 (by decide) (by decide) ?_
          refine tr_iload_n dX12_readEvent_58 rfl ?_
          refine q_iconst dX12_readEvent_59 (by decide) ?_
          intro v1905 h1906
          refine q_icmp_ne 69 dX12_readEvent_60 (by decide) (fun h1907 => ?_) (fun h1907 => ?_)
          · skip
            refine tr_aload_n dX12_readEvent_69 rfl ?_
            refine tr_ldcwS dX12_readEvent_70 ld12_272 ?_
            refine tr_iload_n dX12_readEvent_73 rfl ?_
            refine q_iconst dX12_readEvent_74 (by decide) ?_
            intro v1908 h1909
            refine q_iaddE dX12_readEvent_75 (by intros; omega) ?_
            intro v1910 h1911
            refine tr_aload_n dX12_readEvent_76 rfl ?_
            refine tr_getR dX12_readEvent_77 fl12_188 (kR15 hS1894.1 ta0) d2 ?_
            refine q_getI dX12_readEvent_80 fl12_192 (kR14 hS1894.1 ta1) ((hS1894.cell ta1 (by decide +kernel)).trans c30) ?_
            refine q_callVi hE (M' := mX12_readPart) (as := [_, _, _]) dX12_readEvent_83 lk12_249 inX12_readPart seX12_readPart myX12_readPart (by decide) ⟨by decide, by decide⟩ rfl (kR15 hS1894.1 ta0) (Nat.le_of_ble_eq_true rfl) rfl rfl (by decide) (by decide) (k_X12_readPart hS1894.1 ta0 (by decide)) ?_
            rintro v1916 cn' K' N' I1912 R1913 L1914 ⟨rfl, rfl, rfl, rfl, g1915, p1917, w1918, -⟩
            have hS1919 := hS1894.tr g1915 (by decide +kernel) (by decide +kernel)
            have c1920 : I1912 a1 2 = v37 := (g1915.cell ta1 (by decide +kernel)).trans c1895
            have b1921 : 1 ≤ v1916.toInt ∧ v1916.toInt ≤ 240 := by omega
            clear p1917
            have ov1922 := w1918.over (by rw [c1899]; omega)
            obtain ⟨v1923, c1924⟩ : ∃ v, I1912 a0 9 = v := ⟨_, rfl⟩
            have b1925 := iv15_9 hS1919.1 ta0 c1924
            obtain ⟨v1926, c1927⟩ : ∃ v, I1912 a0 13 = v := ⟨_, rfl⟩
            obtain ⟨v1928, c1929⟩ : ∃ v, I1912 a0 14 = v := ⟨_, rfl⟩
            (try rw [c1924] at ov1922)
            (try rw [c1927] at ov1922)
            (try rw [c1929] at ov1922)
            (try rw [c1899] at ov1922)
            (try rw [c1902] at ov1922)
            (try rw [c1904] at ov1922)
            refine tr_istore dX12_readEvent_86 (by decide) (by decide) ?_
            refine tr_aload_n dX12_readEvent_88 rfl ?_
            refine q_getI dX12_readEvent_89 fl12_99 (kR15 hS1919.1 ta0) c1924 ?_
            refine q_iconst dX12_readEvent_92 (by decide) ?_
            intro v1930 h1931
            refine q_icmp_ne 97 dX12_readEvent_93 (by decide) (fun h1932 => ?_) (fun h1932 => ?_)
            · skip
              exfalso; omega
            · skip
              have eF := hF.eq
              have eP := hP.eq
              obtain ⟨v1933, c1934⟩ : ∃ v, I1912 a0 10 = v := ⟨_, rfl⟩
              have b1935 := iv15_10 hS1919.1 ta0 c1934
              obtain ⟨v1936, c1937⟩ : ∃ v, I1912 a0 11 = v := ⟨_, rfl⟩
              obtain ⟨y1938, c1939⟩ : ∃ v, L1914 a0 15 = v := ⟨_, rfl⟩
              obtain ⟨v1940, c1941⟩ : ∃ v, I1912 a0 12 = v := ⟨_, rfl⟩
              obtain ⟨v1942, c1943⟩ : ∃ v, I1912 a0 8 = v := ⟨_, rfl⟩
              have b1944 := iv15_8 hS1919.1 ta0 c1943
              exact tr_vret hZ dX12_readEvent_96 rfl (by decide) (by decide) ⟨rfl, rfl, rfl, rfl, rfl, hS1919, (Or.inr (⟨(by (try rw [w1349]); first | done | omega), (by (try rw [w1349]); (try rw [c1924]); first | done | omega), (by (try rw [w1349]); (try rw [c1927]); first | done | omega), (by (try rw [w1349]); (try rw [c1929]); first | done | omega), trivial⟩)), trivial⟩
          · skip
            exfalso; omega
      · skip
        exfalso; omega
    · skip
      obtain ⟨v1945, c1946⟩ : ∃ v, I1297 a0 9 = v := ⟨_, rfl⟩
      have b1947 := iv15_9 hS1305.1 ta0 c1946
      rw [c1946] at p1319
      obtain ⟨v1948, c1949⟩ : ∃ v, I1297 a0 13 = v := ⟨_, rfl⟩
      rw [c1949] at p1320
      obtain ⟨v1950, c1951⟩ : ∃ v, I1297 a0 14 = v := ⟨_, rfl⟩
      rw [c1951] at p1321
      have p1952 := p61
      unfold Q7M at p1952
      replace hF := hF.pos (by omega)
      replace hP := hP.pos (by omega)
      clear p1952
      refine tr_iload_n dX12_readEvent_13 rfl ?_
      refine q_iconst dX12_readEvent_14 (by decide) ?_
      intro v1953 h1954
      refine q_icmp_eq 23 dX12_readEvent_15 (by decide) (fun h1955 => ?_) (fun h1955 => ?_)
      · skip
        refine tr_aload_n dX12_readEvent_23 rfl ?_
        refine q_iconst dX12_readEvent_24 (by decide) ?_
        intro v1956 h1957
        refine tr_aload_n dX12_readEvent_25 rfl ?_
        refine tr_getR dX12_readEvent_26 fl12_188 (kR15 hS1305.1 ta0) d2 ?_
        refine q_getI dX12_readEvent_29 fl12_263 (kR14 hS1305.1 ta1) ((hS1305.cell ta1 (by decide +kernel)).trans c34) ?_
        refine q_iconst dX12_readEvent_32 (by decide) ?_
        intro v1958 h1959
        refine q_isubE dX12_readEvent_33 (by intros; omega) ?_
        intro v1960 h1961
        refine q_callVi hE (M' := mX12_readWhole) (as := [_, _]) dX12_readEvent_34 lk12_161 inX12_readWhole seX12_readWhole myX12_readWhole (by decide) ⟨by decide, by decide⟩ rfl (kR15 hS1305.1 ta0) (Nat.le_of_ble_eq_true rfl) rfl rfl (by decide) (by decide) (k_X12_readWhole hS1305.1 ta0) ?_
        rintro v1966 cn' K' N' I1962 R1963 L1964 ⟨rfl, rfl, rfl, rfl, g1965, p1967, w1968, -⟩
        have hS1969 := hS1305.tr g1965 (by decide +kernel) (by decide +kernel)
        have c1970 : I1962 a1 2 = v37 := (g1965.cell ta1 (by decide +kernel)).trans c1306
        have b1971 : 0 ≤ v1966.toInt ∧ v1966.toInt ≤ 3 := by omega
        clear p1967
        have ov1972 := w1968.over (by rw [c1946]; omega)
        obtain ⟨v1973, c1974⟩ : ∃ v, I1962 a0 9 = v := ⟨_, rfl⟩
        have b1975 := iv15_9 hS1969.1 ta0 c1974
        obtain ⟨v1976, c1977⟩ : ∃ v, I1962 a0 13 = v := ⟨_, rfl⟩
        obtain ⟨v1978, c1979⟩ : ∃ v, I1962 a0 14 = v := ⟨_, rfl⟩
        (try rw [c1974] at ov1972)
        (try rw [c1977] at ov1972)
        (try rw [c1979] at ov1972)
        (try rw [c1946] at ov1972)
        (try rw [c1949] at ov1972)
        (try rw [c1951] at ov1972)
        refine tr_goto 42 dX12_readEvent_37 (by decide) ?_
        refine tr_istore_n dX12_readEvent_42 (by decide) (by decide) ?_
        refine tr_aload_n dX12_readEvent_43 rfl ?_
        refine q_iconst dX12_readEvent_44 (by decide) ?_
        intro v1980 h1981
        refine tr_aload_n dX12_readEvent_45 rfl ?_
        refine tr_getR dX12_readEvent_46 fl12_188 (kR15 hS1969.1 ta0) d2 ?_
        refine q_getI dX12_readEvent_49 fl12_192 (kR14 hS1969.1 ta1) ((hS1969.cell ta1 (by decide +kernel)).trans c30) ?_
        refine q_iconst dX12_readEvent_52 (by decide) ?_
        intro v1982 h1983
        refine q_isubE dX12_readEvent_53 (by intros; omega) ?_
        intro v1984 h1985
        refine q_callVi hE (M' := mX12_readWhole) (as := [_, _]) dX12_readEvent_54 lk12_161 inX12_readWhole seX12_readWhole myX12_readWhole (by decide) ⟨by decide, by decide⟩ rfl (kR15 hS1969.1 ta0) (Nat.le_of_ble_eq_true rfl) rfl rfl (by decide) (by decide) (k_X12_readWhole hS1969.1 ta0) ?_
        rintro v1990 cn' K' N' I1986 R1987 L1988 ⟨rfl, rfl, rfl, rfl, g1989, p1991, w1992, -⟩
        have hS1993 := hS1969.tr g1989 (by decide +kernel) (by decide +kernel)
        have c1994 : I1986 a1 2 = v37 := (g1989.cell ta1 (by decide +kernel)).trans c1970
        have b1995 : 0 ≤ v1990.toInt ∧ v1990.toInt ≤ 239 := by omega
        clear p1991
        have ov1996 := w1992.over (by rw [c1974]; omega)
        obtain ⟨v1997, c1998⟩ : ∃ v, I1986 a0 9 = v := ⟨_, rfl⟩
        have b1999 := iv15_9 hS1993.1 ta0 c1998
        obtain ⟨v2000, c2001⟩ : ∃ v, I1986 a0 13 = v := ⟨_, rfl⟩
        obtain ⟨v2002, c2003⟩ : ∃ v, I1986 a0 14 = v := ⟨_, rfl⟩
        (try rw [c1998] at ov1996)
        (try rw [c2001] at ov1996)
        (try rw [c2003] at ov1996)
        (try rw [c1974] at ov1996)
        (try rw [c1977] at ov1996)
        (try rw [c1979] at ov1996)
        refine tr_istore_n dX12_readEvent_57 (by decide) (by decide) ?_
        refine tr_iload_n dX12_readEvent_58 rfl ?_
        refine q_iconst dX12_readEvent_59 (by decide) ?_
        intro v2004 h2005
        refine q_icmp_ne 69 dX12_readEvent_60 (by decide) (fun h2006 => ?_) (fun h2006 => ?_)
        · skip
          refine tr_aload_n dX12_readEvent_69 rfl ?_
          refine tr_ldcwS dX12_readEvent_70 ld12_272 ?_
          refine tr_iload_n dX12_readEvent_73 rfl ?_
          refine q_iconst dX12_readEvent_74 (by decide) ?_
          intro v2007 h2008
          refine q_iaddE dX12_readEvent_75 (by intros; omega) ?_
          intro v2009 h2010
          refine tr_aload_n dX12_readEvent_76 rfl ?_
          refine tr_getR dX12_readEvent_77 fl12_188 (kR15 hS1993.1 ta0) d2 ?_
          refine q_getI dX12_readEvent_80 fl12_192 (kR14 hS1993.1 ta1) ((hS1993.cell ta1 (by decide +kernel)).trans c30) ?_
          refine q_callVi hE (M' := mX12_readPart) (as := [_, _, _]) dX12_readEvent_83 lk12_249 inX12_readPart seX12_readPart myX12_readPart (by decide) ⟨by decide, by decide⟩ rfl (kR15 hS1993.1 ta0) (Nat.le_of_ble_eq_true rfl) rfl rfl (by decide) (by decide) (k_X12_readPart hS1993.1 ta0 (by decide)) ?_
          rintro v2015 cn' K' N' I2011 R2012 L2013 ⟨rfl, rfl, rfl, rfl, g2014, p2016, w2017, -⟩
          have hS2018 := hS1993.tr g2014 (by decide +kernel) (by decide +kernel)
          have c2019 : I2011 a1 2 = v37 := (g2014.cell ta1 (by decide +kernel)).trans c1994
          have b2020 : 1 ≤ v2015.toInt ∧ v2015.toInt ≤ 240 := by omega
          clear p2016
          have ov2021 := w2017.over (by rw [c1998]; omega)
          obtain ⟨v2022, c2023⟩ : ∃ v, I2011 a0 9 = v := ⟨_, rfl⟩
          have b2024 := iv15_9 hS2018.1 ta0 c2023
          obtain ⟨v2025, c2026⟩ : ∃ v, I2011 a0 13 = v := ⟨_, rfl⟩
          obtain ⟨v2027, c2028⟩ : ∃ v, I2011 a0 14 = v := ⟨_, rfl⟩
          (try rw [c2023] at ov2021)
          (try rw [c2026] at ov2021)
          (try rw [c2028] at ov2021)
          (try rw [c1998] at ov2021)
          (try rw [c2001] at ov2021)
          (try rw [c2003] at ov2021)
          refine tr_istore dX12_readEvent_86 (by decide) (by decide) ?_
          refine tr_aload_n dX12_readEvent_88 rfl ?_
          refine q_getI dX12_readEvent_89 fl12_99 (kR15 hS2018.1 ta0) c2023 ?_
          refine q_iconst dX12_readEvent_92 (by decide) ?_
          intro v2029 h2030
          refine q_icmp_ne 97 dX12_readEvent_93 (by decide) (fun h2031 => ?_) (fun h2031 => ?_)
          · skip
            exfalso; omega
          · skip
            have eF := hF.eq
            have eP := hP.eq
            obtain ⟨v2032, c2033⟩ : ∃ v, I2011 a0 10 = v := ⟨_, rfl⟩
            have b2034 := iv15_10 hS2018.1 ta0 c2033
            obtain ⟨v2035, c2036⟩ : ∃ v, I2011 a0 11 = v := ⟨_, rfl⟩
            obtain ⟨y2037, c2038⟩ : ∃ v, L2013 a0 15 = v := ⟨_, rfl⟩
            obtain ⟨v2039, c2040⟩ : ∃ v, I2011 a0 12 = v := ⟨_, rfl⟩
            obtain ⟨v2041, c2042⟩ : ∃ v, I2011 a0 8 = v := ⟨_, rfl⟩
            have b2043 := iv15_8 hS2018.1 ta0 c2042
            exact tr_vret hZ dX12_readEvent_96 rfl (by decide) (by decide) ⟨rfl, rfl, rfl, rfl, rfl, hS2018, (Or.inr (⟨(by first | done | omega), (by (try rw [c2023]); first | done | omega), (by (try rw [c2026]); first | done | omega), (by (try rw [c2028]); first | done | omega), trivial⟩)), trivial⟩
        · skip
          exfalso; omega
      · skip
        exfalso; omega
    · skip
      obtain ⟨v2044, c2045⟩ : ∃ v, I1297 a0 9 = v := ⟨_, rfl⟩
      have b2046 := iv15_9 hS1305.1 ta0 c2045
      rw [c2045] at p1324
      obtain ⟨v2047, c2048⟩ : ∃ v, I1297 a0 13 = v := ⟨_, rfl⟩
      rw [c2048] at p1325
      obtain ⟨v2049, c2050⟩ : ∃ v, I1297 a0 14 = v := ⟨_, rfl⟩
      rw [c2050] at p1326
      have p2051 := p61
      unfold Q7M at p2051
      replace hF := hF.neg (by omega)
      replace hP := hP.neg (by omega)
      replace hF := hF.pos (by omega)
      replace hP := hP.pos (by omega)
      clear p2051
      refine tr_iload_n dX12_readEvent_13 rfl ?_
      refine q_iconst dX12_readEvent_14 (by decide) ?_
      intro v2052 h2053
      refine q_icmp_eq 23 dX12_readEvent_15 (by decide) (fun h2054 => ?_) (fun h2054 => ?_)
      · skip
        refine tr_aload_n dX12_readEvent_23 rfl ?_
        refine q_iconst dX12_readEvent_24 (by decide) ?_
        intro v2055 h2056
        refine tr_aload_n dX12_readEvent_25 rfl ?_
        refine tr_getR dX12_readEvent_26 fl12_188 (kR15 hS1305.1 ta0) d2 ?_
        refine q_getI dX12_readEvent_29 fl12_263 (kR14 hS1305.1 ta1) ((hS1305.cell ta1 (by decide +kernel)).trans c34) ?_
        refine q_iconst dX12_readEvent_32 (by decide) ?_
        intro v2057 h2058
        refine q_isubE dX12_readEvent_33 (by intros; omega) ?_
        intro v2059 h2060
        refine q_callVi hE (M' := mX12_readWhole) (as := [_, _]) dX12_readEvent_34 lk12_161 inX12_readWhole seX12_readWhole myX12_readWhole (by decide) ⟨by decide, by decide⟩ rfl (kR15 hS1305.1 ta0) (Nat.le_of_ble_eq_true rfl) rfl rfl (by decide) (by decide) (k_X12_readWhole hS1305.1 ta0) ?_
        rintro v2065 cn' K' N' I2061 R2062 L2063 ⟨rfl, rfl, rfl, rfl, g2064, p2066, w2067, -⟩
        have hS2068 := hS1305.tr g2064 (by decide +kernel) (by decide +kernel)
        have c2069 : I2061 a1 2 = v37 := (g2064.cell ta1 (by decide +kernel)).trans c1306
        have b2070 : 0 ≤ v2065.toInt ∧ v2065.toInt ≤ 3 := by omega
        clear p2066
        have ov2071 := w2067.over (by rw [c2045]; omega)
        obtain ⟨v2072, c2073⟩ : ∃ v, I2061 a0 9 = v := ⟨_, rfl⟩
        have b2074 := iv15_9 hS2068.1 ta0 c2073
        obtain ⟨v2075, c2076⟩ : ∃ v, I2061 a0 13 = v := ⟨_, rfl⟩
        obtain ⟨v2077, c2078⟩ : ∃ v, I2061 a0 14 = v := ⟨_, rfl⟩
        (try rw [c2073] at ov2071)
        (try rw [c2076] at ov2071)
        (try rw [c2078] at ov2071)
        (try rw [c2045] at ov2071)
        (try rw [c2048] at ov2071)
        (try rw [c2050] at ov2071)
        refine tr_goto 42 dX12_readEvent_37 (by decide) ?_
        refine tr_istore_n dX12_readEvent_42 (by decide) (by decide) ?_
        refine tr_aload_n dX12_readEvent_43 rfl ?_
        refine q_iconst dX12_readEvent_44 (by decide) ?_
        intro v2079 h2080
        refine tr_aload_n dX12_readEvent_45 rfl ?_
        refine tr_getR dX12_readEvent_46 fl12_188 (kR15 hS2068.1 ta0) d2 ?_
        refine q_getI dX12_readEvent_49 fl12_192 (kR14 hS2068.1 ta1) ((hS2068.cell ta1 (by decide +kernel)).trans c30) ?_
        refine q_iconst dX12_readEvent_52 (by decide) ?_
        intro v2081 h2082
        refine q_isubE dX12_readEvent_53 (by intros; omega) ?_
        intro v2083 h2084
        refine q_callVi hE (M' := mX12_readWhole) (as := [_, _]) dX12_readEvent_54 lk12_161 inX12_readWhole seX12_readWhole myX12_readWhole (by decide) ⟨by decide, by decide⟩ rfl (kR15 hS2068.1 ta0) (Nat.le_of_ble_eq_true rfl) rfl rfl (by decide) (by decide) (k_X12_readWhole hS2068.1 ta0) ?_
        rintro v2089 cn' K' N' I2085 R2086 L2087 ⟨rfl, rfl, rfl, rfl, g2088, p2090, w2091, -⟩
        have hS2092 := hS2068.tr g2088 (by decide +kernel) (by decide +kernel)
        have c2093 : I2085 a1 2 = v37 := (g2088.cell ta1 (by decide +kernel)).trans c2069
        have b2094 : 0 ≤ v2089.toInt ∧ v2089.toInt ≤ 0 := by omega
        clear p2090
        have ov2095 := w2091.over (by rw [c2073]; omega)
        obtain ⟨v2096, c2097⟩ : ∃ v, I2085 a0 9 = v := ⟨_, rfl⟩
        have b2098 := iv15_9 hS2092.1 ta0 c2097
        obtain ⟨v2099, c2100⟩ : ∃ v, I2085 a0 13 = v := ⟨_, rfl⟩
        obtain ⟨v2101, c2102⟩ : ∃ v, I2085 a0 14 = v := ⟨_, rfl⟩
        (try rw [c2097] at ov2095)
        (try rw [c2100] at ov2095)
        (try rw [c2102] at ov2095)
        (try rw [c2073] at ov2095)
        (try rw [c2076] at ov2095)
        (try rw [c2078] at ov2095)
        refine tr_istore_n dX12_readEvent_57 (by decide) (by decide) ?_
        refine tr_iload_n dX12_readEvent_58 rfl ?_
        refine q_iconst dX12_readEvent_59 (by decide) ?_
        intro v2103 h2104
        refine q_icmp_ne 69 dX12_readEvent_60 (by decide) (fun h2105 => ?_) (fun h2105 => ?_)
        · skip
          refine tr_aload_n dX12_readEvent_69 rfl ?_
          refine tr_ldcwS dX12_readEvent_70 ld12_272 ?_
          refine tr_iload_n dX12_readEvent_73 rfl ?_
          refine q_iconst dX12_readEvent_74 (by decide) ?_
          intro v2106 h2107
          refine q_iaddE dX12_readEvent_75 (by intros; omega) ?_
          intro v2108 h2109
          refine tr_aload_n dX12_readEvent_76 rfl ?_
          refine tr_getR dX12_readEvent_77 fl12_188 (kR15 hS2092.1 ta0) d2 ?_
          refine q_getI dX12_readEvent_80 fl12_192 (kR14 hS2092.1 ta1) ((hS2092.cell ta1 (by decide +kernel)).trans c30) ?_
          refine q_callVi hE (M' := mX12_readPart) (as := [_, _, _]) dX12_readEvent_83 lk12_249 inX12_readPart seX12_readPart myX12_readPart (by decide) ⟨by decide, by decide⟩ rfl (kR15 hS2092.1 ta0) (Nat.le_of_ble_eq_true rfl) rfl rfl (by decide) (by decide) (k_X12_readPart hS2092.1 ta0 (by decide)) ?_
          rintro v2114 cn' K' N' I2110 R2111 L2112 ⟨rfl, rfl, rfl, rfl, g2113, p2115, w2116, -⟩
          have hS2117 := hS2092.tr g2113 (by decide +kernel) (by decide +kernel)
          have c2118 : I2110 a1 2 = v37 := (g2113.cell ta1 (by decide +kernel)).trans c2093
          have b2119 : 1 ≤ v2114.toInt ∧ v2114.toInt ≤ 1 := by omega
          clear p2115
          have ov2120 := w2116.over (by rw [c2097]; omega)
          obtain ⟨v2121, c2122⟩ : ∃ v, I2110 a0 9 = v := ⟨_, rfl⟩
          have b2123 := iv15_9 hS2117.1 ta0 c2122
          obtain ⟨v2124, c2125⟩ : ∃ v, I2110 a0 13 = v := ⟨_, rfl⟩
          obtain ⟨v2126, c2127⟩ : ∃ v, I2110 a0 14 = v := ⟨_, rfl⟩
          (try rw [c2122] at ov2120)
          (try rw [c2125] at ov2120)
          (try rw [c2127] at ov2120)
          (try rw [c2097] at ov2120)
          (try rw [c2100] at ov2120)
          (try rw [c2102] at ov2120)
          refine tr_istore dX12_readEvent_86 (by decide) (by decide) ?_
          refine tr_aload_n dX12_readEvent_88 rfl ?_
          refine q_getI dX12_readEvent_89 fl12_99 (kR15 hS2117.1 ta0) c2122 ?_
          refine q_iconst dX12_readEvent_92 (by decide) ?_
          intro v2128 h2129
          refine q_icmp_ne 97 dX12_readEvent_93 (by decide) (fun h2130 => ?_) (fun h2130 => ?_)
          · skip
            exfalso; omega
          · skip
            have eF := hF.eq
            have eP := hP.eq
            obtain ⟨v2131, c2132⟩ : ∃ v, I2110 a0 10 = v := ⟨_, rfl⟩
            have b2133 := iv15_10 hS2117.1 ta0 c2132
            obtain ⟨v2134, c2135⟩ : ∃ v, I2110 a0 11 = v := ⟨_, rfl⟩
            obtain ⟨y2136, c2137⟩ : ∃ v, L2112 a0 15 = v := ⟨_, rfl⟩
            obtain ⟨v2138, c2139⟩ : ∃ v, I2110 a0 12 = v := ⟨_, rfl⟩
            obtain ⟨v2140, c2141⟩ : ∃ v, I2110 a0 8 = v := ⟨_, rfl⟩
            have b2142 := iv15_8 hS2117.1 ta0 c2141
            exact tr_vret hZ dX12_readEvent_96 rfl (by decide) (by decide) ⟨rfl, rfl, rfl, rfl, rfl, hS2117, (Or.inr (⟨(by first | done | omega), (by (try rw [c2122]); first | done | omega), (by (try rw [c2125]); first | done | omega), (by (try rw [c2127]); first | done | omega), trivial⟩)), trivial⟩
        · skip
          exfalso; omega
      · skip
        exfalso; omega
  · skip
    refine tr_aload_n dX12_readEvent_0 rfl ?_
    refine tr_aload_n dX12_readEvent_1 rfl ?_
    refine tr_getR dX12_readEvent_2 fl12_188 (kR15 hS0.1 ta0) d2 ?_
    refine q_getI dX12_readEvent_5 fl12_265 (kR14 hS0.1 ta1) c38 ?_
    refine q_bipush dX12_readEvent_8 (by decide +kernel) ?_
    intro v2143 h2144
    refine q_callVv hE (M' := mX12_begins) (as := [_, _]) dX12_readEvent_10 lk12_268 inX12_begins seX12_begins myX12_begins (by decide) ⟨by decide, by decide⟩ rfl (kR15 hS0.1 ta0) (Nat.le_of_ble_eq_true rfl) rfl rfl (by decide) (by decide) (fk_X12_begins hS0.1 (gB) (gs) (gQ) ta0 (TxA.kp hT hS0 ta0 rfl rfl rfl (by decide +kernel) (by decide +kernel)) (by (try rw [c4]); first | done | omega) (by (try rw [c4]); first | done | omega) (by (try rw [c9]); first | done | omega) (by (try rw [c13]); first | done | omega) (by (try rw [c16]); first | done | assumption) (by (try rw [c19]); first | done | assumption) (by (try rw [c22]); first | done | assumption) (by (try rw [c26]); first | done | omega) (fun q0 z0 => by obtain rfl := Option.some.inj ((d2).symm.trans z0); (try rw [c30]); first | done | omega) (by first | done | omega) ⟨_, d2⟩) ?_
    rintro cn' K' N' I2145 R2146 L2147 ⟨rfl, rfl, rfl, rfl, g2148, dj2151, -⟩
    have hM2152 : NmM I2145 R0 L0 a1 gQ := NmM.kpS hM0 g2148 hS0.1 ta1 (by decide +kernel) (by decide +kernel)
    have hS2153 := hS0.tr g2148 (by decide +kernel) (by decide +kernel)
    have c2154 : I2145 a1 2 = v37 := (g2148.cell ta1 (by decide +kernel)).trans c38
    rcases dj2151 with ⟨p2155, p2156, p2157, p2158, p2159, p2160, p2161, p2162, p2163, p2164, gl2165, -⟩ | ⟨p2166, p2167, p2168, p2169, -⟩ | ⟨p2170, p2171, p2172, p2173, p2174, -⟩
    · skip
      have hL2175 := hL0.tr gl2165 (by decide +kernel)
      have hM2176 : NmM I2145 R0 L2147 a1 gQ := NmM.kpL hM2152 gl2165 hS2153.1 ta1 (by decide +kernel)
      obtain ⟨v2177, c2178⟩ : ∃ v, I2145 a0 13 = v := ⟨_, rfl⟩
      rw [c2178] at p2157
      rw [c65] at p2157
      obtain ⟨v2179, c2180⟩ : ∃ v, I2145 a0 9 = v := ⟨_, rfl⟩
      have b2181 := iv15_9 hS2153.1 ta0 c2180
      rw [c2180] at p2158
      rw [c2180] at p2159
      obtain ⟨v2182, c2183⟩ : ∃ v, I2145 a0 10 = v := ⟨_, rfl⟩
      have b2184 := iv15_10 hS2153.1 ta0 c2183
      rw [c2183] at p2160
      obtain ⟨v2185, c2186⟩ : ∃ v, I2145 a0 11 = v := ⟨_, rfl⟩
      rw [c2186] at p2161
      obtain ⟨y2187, c2188⟩ : ∃ v, L2147 a0 15 = v := ⟨_, rfl⟩
      rw [c2188] at p2162
      obtain ⟨v2189, c2190⟩ : ∃ v, I2145 a0 12 = v := ⟨_, rfl⟩
      rw [c2190] at p2163
      obtain ⟨v2191, c2192⟩ : ∃ v, I2145 a0 8 = v := ⟨_, rfl⟩
      have b2193 := iv15_8 hS2153.1 ta0 c2192
      rw [c2192] at p2164
      have p2194 := p61
      unfold Q7M at p2194
      replace hF := hF.neg (by omega)
      replace hP := hP.neg (by omega)
      replace hF := hF.neg (by omega)
      replace hP := hP.neg (by omega)
      clear p2194
      obtain ⟨w2195, w2196, w2197, w2198, w2199, w2200, w2201, w2202, w2203, w2204, w2205, w2206⟩ := lnl_e (B := gB) (Q := gQ) (s := gs) (by omega) (by omega)
      replace hF := hF.to w2195 (evF_c2 (B := gB) (Q := gQ) (k := srt gB gs) (s := (tkN gB gs)) (by omega))
      replace hP := hP.to w2196 (evP_c2 (B := gB) (Q := gQ) (k := srt gB gs) (s := (tkN gB gs)) (by omega))
      refine tr_iload_n dX12_readEvent_13 rfl ?_
      refine q_iconst dX12_readEvent_14 (by decide) ?_
      intro v2207 h2208
      refine q_icmp_eq 23 dX12_readEvent_15 (by decide) (fun h2209 => ?_) (fun h2209 => ?_)
      · skip
        exfalso; omega
      · skip
        refine tr_iload_n dX12_readEvent_18 rfl ?_
        refine q_iconst dX12_readEvent_19 (by decide) ?_
        intro v2210 h2211
        refine q_icmp_ne 40 dX12_readEvent_20 (by decide) (fun h2212 => ?_) (fun h2212 => ?_)
        · skip
          exfalso; omega
        · skip
          refine tr_aload_n dX12_readEvent_23 rfl ?_
          refine q_iconst dX12_readEvent_24 (by decide) ?_
          intro v2213 h2214
          refine tr_aload_n dX12_readEvent_25 rfl ?_
          refine tr_getR dX12_readEvent_26 fl12_188 (kR15 hS2153.1 ta0) d2 ?_
          refine q_getI dX12_readEvent_29 fl12_263 (kR14 hS2153.1 ta1) ((hS2153.cell ta1 (by decide +kernel)).trans c34) ?_
          refine q_iconst dX12_readEvent_32 (by decide) ?_
          intro v2215 h2216
          refine q_isubE dX12_readEvent_33 (by intros; omega) ?_
          intro v2217 h2218
          refine q_callVi hE (M' := mX12_readWhole) (as := [_, _]) dX12_readEvent_34 lk12_161 inX12_readWhole seX12_readWhole myX12_readWhole (by decide) ⟨by decide, by decide⟩ rfl (kR15 hS2153.1 ta0) (Nat.le_of_ble_eq_true rfl) rfl rfl (by decide) (by decide) (fk_X12_readWhole hS2153.1 (gB) ((tkN gB gs)) ta0 (TxA.kp hT hS2153 ta0 rfl rfl rfl (by decide +kernel) (by decide +kernel)) (by (try rw [c2180]); first | done | omega) (by (try rw [c2180]); first | done | omega) (by (try rw [c2183]); first | done | omega) (by (try rw [c2186]); first | done | omega) (by (try rw [c2188]); first | done | assumption) (by (try rw [c2190]); first | done | assumption) (by (try rw [c2192]); first | done | assumption) (by (try rw [((hS2153.cell ta0 (by decide +kernel)).trans c26)]); first | done | omega)) ?_
          rintro v2224 cn' K' N' I2219 R2220 L2221 ⟨rfl, rfl, rfl, rfl, g2222, dj2225, -⟩
          have hM2226 : NmM I2219 R0 L2147 a1 gQ := NmM.kpS hM2176 g2222 hS2153.1 ta1 (by decide +kernel) (by decide +kernel)
          have hS2227 := hS2153.tr g2222 (by decide +kernel) (by decide +kernel)
          have c2228 : I2219 a1 2 = v37 := (g2222.cell ta1 (by decide +kernel)).trans c2154
          rcases dj2225 with ⟨p2229, p2230, p2231, p2232, p2233, p2234, p2235, p2236, p2237, p2238, p2239, p2240, gl2241, -⟩ | ⟨p2242, p2243, p2244, p2245, p2246, -⟩ | ⟨p2247, p2248, p2249, p2250, p2251, p2252, -⟩
          · skip
            have hL2253 := hL2175.tr gl2241 (by decide +kernel)
            have hM2254 : NmM I2219 R0 L2221 a1 gQ := NmM.kpL hM2226 gl2241 hS2227.1 ta1 (by decide +kernel)
            obtain ⟨v2255, c2256⟩ : ∃ v, I2219 a0 13 = v := ⟨_, rfl⟩
            rw [c2256] at p2233
            rw [c2178] at p2233
            obtain ⟨v2257, c2258⟩ : ∃ v, I2219 a0 9 = v := ⟨_, rfl⟩
            have b2259 := iv15_9 hS2227.1 ta0 c2258
            rw [c2258] at p2234
            rw [c2258] at p2235
            obtain ⟨v2260, c2261⟩ : ∃ v, I2219 a0 10 = v := ⟨_, rfl⟩
            have b2262 := iv15_10 hS2227.1 ta0 c2261
            rw [c2261] at p2236
            obtain ⟨v2263, c2264⟩ : ∃ v, I2219 a0 11 = v := ⟨_, rfl⟩
            rw [c2264] at p2237
            obtain ⟨y2265, c2266⟩ : ∃ v, L2221 a0 15 = v := ⟨_, rfl⟩
            rw [c2266] at p2238
            obtain ⟨v2267, c2268⟩ : ∃ v, I2219 a0 12 = v := ⟨_, rfl⟩
            rw [c2268] at p2239
            obtain ⟨v2269, c2270⟩ : ∃ v, I2219 a0 8 = v := ⟨_, rfl⟩
            have b2271 := iv15_8 hS2227.1 ta0 c2270
            rw [c2270] at p2240
            replace hF := hF.neg (by omega)
            replace hP := hP.neg (by omega)
            replace hF := hF.neg (by omega)
            replace hP := hP.neg (by omega)
            refine tr_goto 42 dX12_readEvent_37 (by decide) ?_
            refine tr_istore_n dX12_readEvent_42 (by decide) (by decide) ?_
            refine tr_aload_n dX12_readEvent_43 rfl ?_
            refine q_iconst dX12_readEvent_44 (by decide) ?_
            intro v2272 h2273
            refine tr_aload_n dX12_readEvent_45 rfl ?_
            refine tr_getR dX12_readEvent_46 fl12_188 (kR15 hS2227.1 ta0) d2 ?_
            refine q_getI dX12_readEvent_49 fl12_192 (kR14 hS2227.1 ta1) ((hS2227.cell ta1 (by decide +kernel)).trans c30) ?_
            refine q_iconst dX12_readEvent_52 (by decide) ?_
            intro v2274 h2275
            refine q_isubE dX12_readEvent_53 (by intros; omega) ?_
            intro v2276 h2277
            refine q_callVi hE (M' := mX12_readWhole) (as := [_, _]) dX12_readEvent_54 lk12_161 inX12_readWhole seX12_readWhole myX12_readWhole (by decide) ⟨by decide, by decide⟩ rfl (kR15 hS2227.1 ta0) (Nat.le_of_ble_eq_true rfl) rfl rfl (by decide) (by decide) (fk_X12_readWhole hS2227.1 (gB) ((tkN gB (tkN gB gs))) ta0 (TxA.kp hT hS2227 ta0 rfl rfl rfl (by decide +kernel) (by decide +kernel)) (by (try rw [c2258]); first | done | omega) (by (try rw [c2258]); first | done | omega) (by (try rw [c2261]); first | done | omega) (by (try rw [c2264]); first | done | omega) (by (try rw [c2266]); first | done | assumption) (by (try rw [c2268]); first | done | assumption) (by (try rw [c2270]); first | done | assumption) (by (try rw [((hS2227.cell ta0 (by decide +kernel)).trans c26)]); first | done | omega)) ?_
            rintro v2283 cn' K' N' I2278 R2279 L2280 ⟨rfl, rfl, rfl, rfl, g2281, dj2284, -⟩
            have hM2285 : NmM I2278 R0 L2221 a1 gQ := NmM.kpS hM2254 g2281 hS2227.1 ta1 (by decide +kernel) (by decide +kernel)
            have hS2286 := hS2227.tr g2281 (by decide +kernel) (by decide +kernel)
            have c2287 : I2278 a1 2 = v37 := (g2281.cell ta1 (by decide +kernel)).trans c2228
            rcases dj2284 with ⟨p2288, p2289, p2290, p2291, p2292, p2293, p2294, p2295, p2296, p2297, p2298, p2299, gl2300, -⟩ | ⟨p2301, p2302, p2303, p2304, p2305, -⟩ | ⟨p2306, p2307, p2308, p2309, p2310, p2311, -⟩
            · skip
              have hL2312 := hL2253.tr gl2300 (by decide +kernel)
              have hM2313 : NmM I2278 R0 L2280 a1 gQ := NmM.kpL hM2285 gl2300 hS2286.1 ta1 (by decide +kernel)
              obtain ⟨v2314, c2315⟩ : ∃ v, I2278 a0 13 = v := ⟨_, rfl⟩
              rw [c2315] at p2292
              rw [c2256] at p2292
              obtain ⟨v2316, c2317⟩ : ∃ v, I2278 a0 9 = v := ⟨_, rfl⟩
              have b2318 := iv15_9 hS2286.1 ta0 c2317
              rw [c2317] at p2293
              rw [c2317] at p2294
              obtain ⟨v2319, c2320⟩ : ∃ v, I2278 a0 10 = v := ⟨_, rfl⟩
              have b2321 := iv15_10 hS2286.1 ta0 c2320
              rw [c2320] at p2295
              obtain ⟨v2322, c2323⟩ : ∃ v, I2278 a0 11 = v := ⟨_, rfl⟩
              rw [c2323] at p2296
              obtain ⟨y2324, c2325⟩ : ∃ v, L2280 a0 15 = v := ⟨_, rfl⟩
              rw [c2325] at p2297
              obtain ⟨v2326, c2327⟩ : ∃ v, I2278 a0 12 = v := ⟨_, rfl⟩
              rw [c2327] at p2298
              obtain ⟨v2328, c2329⟩ : ∃ v, I2278 a0 8 = v := ⟨_, rfl⟩
              have b2330 := iv15_8 hS2286.1 ta0 c2329
              rw [c2329] at p2299
              replace hF := hF.neg (by omega)
              replace hP := hP.neg (by omega)
              replace hF := hF.neg (by omega)
              replace hP := hP.neg (by omega)
              refine tr_istore_n dX12_readEvent_57 (by decide) (by decide) ?_
              refine tr_iload_n dX12_readEvent_58 rfl ?_
              refine q_iconst dX12_readEvent_59 (by decide) ?_
              intro v2331 h2332
              refine q_icmp_ne 69 dX12_readEvent_60 (by decide) (fun h2333 => ?_) (fun h2333 => ?_)
              · skip
                refine tr_aload_n dX12_readEvent_69 rfl ?_
                refine tr_ldcwS dX12_readEvent_70 ld12_272 ?_
                refine tr_iload_n dX12_readEvent_73 rfl ?_
                refine q_iconst dX12_readEvent_74 (by decide) ?_
                intro v2334 h2335
                refine q_iaddE dX12_readEvent_75 (by intros; omega) ?_
                intro v2336 h2337
                refine tr_aload_n dX12_readEvent_76 rfl ?_
                refine tr_getR dX12_readEvent_77 fl12_188 (kR15 hS2286.1 ta0) d2 ?_
                refine q_getI dX12_readEvent_80 fl12_192 (kR14 hS2286.1 ta1) ((hS2286.cell ta1 (by decide +kernel)).trans c30) ?_
                refine q_callVi hE (M' := mX12_readPart) (as := [_, _, _]) dX12_readEvent_83 lk12_249 inX12_readPart seX12_readPart myX12_readPart (by decide) ⟨by decide, by decide⟩ rfl (kR15 hS2286.1 ta0) (Nat.le_of_ble_eq_true rfl) rfl rfl (by decide) (by decide) (fk_X12_readPart hS2286.1 (gB) ((tkN gB (tkN gB (tkN gB gs)))) ta0 (by decide) (TxA.kp hT hS2286 ta0 rfl rfl rfl (by decide +kernel) (by decide +kernel)) (by (try rw [c2317]); first | done | omega) (by (try rw [c2317]); first | done | omega) (by (try rw [c2320]); first | done | omega) (by (try rw [c2323]); first | done | omega) (by (try rw [c2325]); first | done | assumption) (by (try rw [c2327]); first | done | assumption) (by (try rw [c2329]); first | done | assumption) (by (try rw [((hS2286.cell ta0 (by decide +kernel)).trans c26)]); first | done | omega)) ?_
                rintro v2343 cn' K' N' I2338 R2339 L2340 ⟨rfl, rfl, rfl, rfl, g2341, dj2344, -⟩
                (try rw [pk_25] at dj2344)
                have hM2345 : NmM I2338 R0 L2280 a1 gQ := NmM.kpS hM2313 g2341 hS2286.1 ta1 (by decide +kernel) (by decide +kernel)
                have hS2346 := hS2286.tr g2341 (by decide +kernel) (by decide +kernel)
                have c2347 : I2338 a1 2 = v37 := (g2341.cell ta1 (by decide +kernel)).trans c2287
                rcases dj2344 with ⟨p2348, p2349, p2350, p2351, p2352, p2353, p2354, p2355, p2356, p2357, p2358, p2359, p2360, p2361, gl2362, -⟩ | ⟨p2363, p2364, p2365, p2366, p2367, -⟩ | ⟨p2368, p2369, p2370, p2371, p2372, p2373, p2374, -⟩ | ⟨p2375, p2376, p2377, p2378, p2379, p2380, p2381, p2382, -⟩
                · skip
                  have hL2383 := hL2312.tr gl2362 (by decide +kernel)
                  have hM2384 : NmM I2338 R0 L2340 a1 gQ := NmM.kpL hM2345 gl2362 hS2346.1 ta1 (by decide +kernel)
                  obtain ⟨v2385, c2386⟩ : ∃ v, I2338 a0 13 = v := ⟨_, rfl⟩
                  rw [c2386] at p2354
                  rw [c2315] at p2354
                  obtain ⟨v2387, c2388⟩ : ∃ v, I2338 a0 9 = v := ⟨_, rfl⟩
                  have b2389 := iv15_9 hS2346.1 ta0 c2388
                  rw [c2388] at p2355
                  rw [c2388] at p2356
                  obtain ⟨v2390, c2391⟩ : ∃ v, I2338 a0 10 = v := ⟨_, rfl⟩
                  have b2392 := iv15_10 hS2346.1 ta0 c2391
                  rw [c2391] at p2357
                  obtain ⟨v2393, c2394⟩ : ∃ v, I2338 a0 11 = v := ⟨_, rfl⟩
                  rw [c2394] at p2358
                  obtain ⟨y2395, c2396⟩ : ∃ v, L2340 a0 15 = v := ⟨_, rfl⟩
                  rw [c2396] at p2359
                  obtain ⟨v2397, c2398⟩ : ∃ v, I2338 a0 12 = v := ⟨_, rfl⟩
                  rw [c2398] at p2360
                  obtain ⟨v2399, c2400⟩ : ∃ v, I2338 a0 8 = v := ⟨_, rfl⟩
                  have b2401 := iv15_8 hS2346.1 ta0 c2400
                  rw [c2400] at p2361
                  replace hF := hF.neg (by omega)
                  replace hP := hP.neg (by omega)
                  replace hF := hF.neg (by omega)
                  replace hP := hP.neg (by omega)
                  replace hF := hF.neg (by omega)
                  replace hP := hP.neg (by omega)
                  refine tr_istore dX12_readEvent_86 (by decide) (by decide) ?_
                  refine tr_aload_n dX12_readEvent_88 rfl ?_
                  refine q_getI dX12_readEvent_89 fl12_99 (kR15 hS2346.1 ta0) c2388 ?_
                  refine q_iconst dX12_readEvent_92 (by decide) ?_
                  intro v2402 h2403
                  refine q_icmp_ne 97 dX12_readEvent_93 (by decide) (fun h2404 => ?_) (fun h2404 => ?_)
                  · skip
                    refine tr_aload_n dX12_readEvent_97 rfl ?_
                    refine tr_getR dX12_readEvent_98 fl12_188 (kR15 hS2346.1 ta0) d2 ?_
                    refine q_getI dX12_readEvent_101 fl12_265 (kR14 hS2346.1 ta1) c2347 ?_
                    refine tr_istore dX12_readEvent_104 (by decide) (by decide) ?_
                    refine tr_aload_n dX12_readEvent_106 rfl ?_
                    refine tr_getR dX12_readEvent_107 fl12_188 (kR15 hS2346.1 ta0) d2 ?_
                    obtain ⟨a2405, d2406, ta2405⟩ := rf14_11 hW0 ta1
                    refine tr_getR dX12_readEvent_110 fl12_274 (kR14 hS2346.1 ta1) d2406 ?_
                    refine tr_iload dX12_readEvent_113 rfl ?_
                    refine tr_iload_n dX12_readEvent_115 rfl ?_
                    refine q_iastX dX12_readEvent_116 (kR54 hS2346.1 ta2405) (ti_in (nR54 hS2346.1 ta2405) (by omega) (by omega)) hS2346 ta2405 (by rfl) (hS2346.1.putK (m := a1) ta1 d2406 (by rw [c2347]; exact Int.le_of_eq (ti_nat (by omega)).symm)) ?_
                    intro I2411 hS2412 e2413 f2414
                    have c2415 : I2411 a1 2 = v37 := (f2414 _ _ (fun q => by have z := ta1; rw [q.1, ta2405] at z; exact absurd z (by decide))).trans c2347
                    have c2416 : I2411 a0 13 = v2385 := (f2414 _ _ (fun q => by have z := ta0; rw [q.1, ta2405] at z; exact absurd z (by decide))).trans c2386
                    have c2417 : I2411 a0 9 = v2387 := (f2414 _ _ (fun q => by have z := ta0; rw [q.1, ta2405] at z; exact absurd z (by decide))).trans c2388
                    have c2418 : I2411 a0 10 = v2390 := (f2414 _ _ (fun q => by have z := ta0; rw [q.1, ta2405] at z; exact absurd z (by decide))).trans c2391
                    have c2419 : I2411 a0 11 = v2393 := (f2414 _ _ (fun q => by have z := ta0; rw [q.1, ta2405] at z; exact absurd z (by decide))).trans c2394
                    have c2420 : I2411 a0 12 = v2397 := (f2414 _ _ (fun q => by have z := ta0; rw [q.1, ta2405] at z; exact absurd z (by decide))).trans c2398
                    have c2421 : I2411 a0 8 = v2399 := (f2414 _ _ (fun q => by have z := ta0; rw [q.1, ta2405] at z; exact absurd z (by decide))).trans c2400
                    have hM2422 : NmM I2411 R0 L2340 a1 gQ := NmM.kp1 hM2384 f2414 ta2405 rfl rfl hS2346.1 ta1
                    refine tr_aload_n dX12_readEvent_117 rfl ?_
                    refine tr_getR dX12_readEvent_118 fl12_188 (kR15 hS2412.1 ta0) d2 ?_
                    obtain ⟨a2423, d2424, ta2423⟩ := rf14_12 hW0 ta1
                    refine tr_getR dX12_readEvent_121 fl12_277 (kR14 hS2412.1 ta1) d2424 ?_
                    refine tr_iload dX12_readEvent_124 rfl ?_
                    refine tr_iload_n dX12_readEvent_126 rfl ?_
                    refine q_iastX dX12_readEvent_127 (kR55 hS2412.1 ta2423) (ti_in (nR55 hS2412.1 ta2423) (by omega) (by omega)) hS2412 ta2423 (by rfl) (hS2412.1.putH (m := a1) ta1 d2424 (by rw [c2415]; exact Int.le_of_eq (ti_nat (by omega)).symm) (by omega)) ?_
                    intro I2429 hS2430 e2431 f2432
                    have c2433 : I2429 a1 2 = v37 := (f2432 _ _ (fun q => by have z := ta1; rw [q.1, ta2423] at z; exact absurd z (by decide))).trans c2415
                    have c2434 : I2429 a0 13 = v2385 := (f2432 _ _ (fun q => by have z := ta0; rw [q.1, ta2423] at z; exact absurd z (by decide))).trans c2416
                    have c2435 : I2429 a0 9 = v2387 := (f2432 _ _ (fun q => by have z := ta0; rw [q.1, ta2423] at z; exact absurd z (by decide))).trans c2417
                    have c2436 : I2429 a0 10 = v2390 := (f2432 _ _ (fun q => by have z := ta0; rw [q.1, ta2423] at z; exact absurd z (by decide))).trans c2418
                    have c2437 : I2429 a0 11 = v2393 := (f2432 _ _ (fun q => by have z := ta0; rw [q.1, ta2423] at z; exact absurd z (by decide))).trans c2419
                    have c2438 : I2429 a0 12 = v2397 := (f2432 _ _ (fun q => by have z := ta0; rw [q.1, ta2423] at z; exact absurd z (by decide))).trans c2420
                    have c2439 : I2429 a0 8 = v2399 := (f2432 _ _ (fun q => by have z := ta0; rw [q.1, ta2423] at z; exact absurd z (by decide))).trans c2421
                    have c2440 : I2429 a2405 v37.toNatClampNeg = x1 := (f2432 _ _ (fun q => by have z := ta2405; rw [q.1, ta2423] at z; exact absurd z (by decide))).trans e2413
                    have hM2441 : NmM I2429 R0 L2340 a1 gQ := NmM.kp1 hM2422 f2432 ta2423 rfl rfl hS2412.1 ta1
                    refine tr_aload_n dX12_readEvent_128 rfl ?_
                    refine tr_getR dX12_readEvent_129 fl12_188 (kR15 hS2430.1 ta0) d2 ?_
                    obtain ⟨a2442, d2443, ta2442⟩ := rf14_13 hW0 ta1
                    refine tr_getR dX12_readEvent_132 fl12_280 (kR14 hS2430.1 ta1) d2443 ?_
                    refine tr_iload dX12_readEvent_135 rfl ?_
                    refine tr_iload_n dX12_readEvent_137 rfl ?_
                    refine q_iast dX12_readEvent_138 (kR56 hS2430.1 ta2442) (ti_in (nR56 hS2430.1 ta2442) (by omega) (by omega)) hS2430 ta2442 (by show (0 : Int) ≤ v2283.toInt ∧ v2283.toInt ≤ (240 : Int); omega) rfl (by rfl) ?_
                    intro I2444 hS2445 e2447 f2446
                    have c2448 : I2444 a1 2 = v37 := (f2446 _ _ (fun q => by have z := ta1; rw [q.1, ta2442] at z; exact absurd z (by decide))).trans c2433
                    have c2449 : I2444 a0 13 = v2385 := (f2446 _ _ (fun q => by have z := ta0; rw [q.1, ta2442] at z; exact absurd z (by decide))).trans c2434
                    have c2450 : I2444 a0 9 = v2387 := (f2446 _ _ (fun q => by have z := ta0; rw [q.1, ta2442] at z; exact absurd z (by decide))).trans c2435
                    have c2451 : I2444 a0 10 = v2390 := (f2446 _ _ (fun q => by have z := ta0; rw [q.1, ta2442] at z; exact absurd z (by decide))).trans c2436
                    have c2452 : I2444 a0 11 = v2393 := (f2446 _ _ (fun q => by have z := ta0; rw [q.1, ta2442] at z; exact absurd z (by decide))).trans c2437
                    have c2453 : I2444 a0 12 = v2397 := (f2446 _ _ (fun q => by have z := ta0; rw [q.1, ta2442] at z; exact absurd z (by decide))).trans c2438
                    have c2454 : I2444 a0 8 = v2399 := (f2446 _ _ (fun q => by have z := ta0; rw [q.1, ta2442] at z; exact absurd z (by decide))).trans c2439
                    have c2455 : I2444 a2405 v37.toNatClampNeg = x1 := (f2446 _ _ (fun q => by have z := ta2405; rw [q.1, ta2442] at z; exact absurd z (by decide))).trans c2440
                    have c2456 : I2444 a2423 v37.toNatClampNeg = v2224 := (f2446 _ _ (fun q => by have z := ta2423; rw [q.1, ta2442] at z; exact absurd z (by decide))).trans e2431
                    have hM2457 : NmM I2444 R0 L2340 a1 gQ := NmM.kp1 hM2441 f2446 ta2442 rfl rfl hS2430.1 ta1
                    refine tr_aload_n dX12_readEvent_139 rfl ?_
                    refine tr_getR dX12_readEvent_140 fl12_188 (kR15 hS2445.1 ta0) d2 ?_
                    obtain ⟨a2458, d2459, ta2458⟩ := rf14_14 hW0 ta1
                    refine tr_getR dX12_readEvent_143 fl12_283 (kR14 hS2445.1 ta1) d2459 ?_
                    refine tr_iload dX12_readEvent_146 rfl ?_
                    refine tr_iload dX12_readEvent_148 rfl ?_
                    refine q_iast dX12_readEvent_150 (kR57 hS2445.1 ta2458) (ti_in (nR57 hS2445.1 ta2458) (by omega) (by omega)) hS2445 ta2458 (by show (0 : Int) ≤ v2343.toInt ∧ v2343.toInt ≤ (240 : Int); omega) rfl (by rfl) ?_
                    intro I2460 hS2461 e2463 f2462
                    have c2464 : I2460 a1 2 = v37 := (f2462 _ _ (fun q => by have z := ta1; rw [q.1, ta2458] at z; exact absurd z (by decide))).trans c2448
                    have c2465 : I2460 a0 13 = v2385 := (f2462 _ _ (fun q => by have z := ta0; rw [q.1, ta2458] at z; exact absurd z (by decide))).trans c2449
                    have c2466 : I2460 a0 9 = v2387 := (f2462 _ _ (fun q => by have z := ta0; rw [q.1, ta2458] at z; exact absurd z (by decide))).trans c2450
                    have c2467 : I2460 a0 10 = v2390 := (f2462 _ _ (fun q => by have z := ta0; rw [q.1, ta2458] at z; exact absurd z (by decide))).trans c2451
                    have c2468 : I2460 a0 11 = v2393 := (f2462 _ _ (fun q => by have z := ta0; rw [q.1, ta2458] at z; exact absurd z (by decide))).trans c2452
                    have c2469 : I2460 a0 12 = v2397 := (f2462 _ _ (fun q => by have z := ta0; rw [q.1, ta2458] at z; exact absurd z (by decide))).trans c2453
                    have c2470 : I2460 a0 8 = v2399 := (f2462 _ _ (fun q => by have z := ta0; rw [q.1, ta2458] at z; exact absurd z (by decide))).trans c2454
                    have c2471 : I2460 a2405 v37.toNatClampNeg = x1 := (f2462 _ _ (fun q => by have z := ta2405; rw [q.1, ta2458] at z; exact absurd z (by decide))).trans c2455
                    have c2472 : I2460 a2423 v37.toNatClampNeg = v2224 := (f2462 _ _ (fun q => by have z := ta2423; rw [q.1, ta2458] at z; exact absurd z (by decide))).trans c2456
                    have hM2473 : NmM I2460 R0 L2340 a1 gQ := NmM.kp1 hM2457 f2462 ta2458 rfl rfl hS2445.1 ta1
                    refine tr_aload_n dX12_readEvent_151 rfl ?_
                    refine tr_getR dX12_readEvent_152 fl12_188 (kR15 hS2461.1 ta0) d2 ?_
                    refine tr_dup dX12_readEvent_155 rfl ?_
                    refine q_getI dX12_readEvent_156 fl12_265 (kR14 hS2461.1 ta1) c2464 ?_
                    refine q_iconst dX12_readEvent_159 (by decide) ?_
                    intro v2474 h2475
                    refine q_iaddE dX12_readEvent_160 (by intros; omega) ?_
                    intro v2476 h2477
                    refine q_putX dX12_readEvent_161 fl12_265 (kR14 hS2461.1 ta1) (Or.inl rfl) hS2461 ta1 (by decide +kernel) (hS2461.1.putE (i := v37.toNatClampNeg) ta1 d2406 d2424 (by rw [c2464]; exact (ti_nat (by omega)).symm) (by rw [c2464]; omega) (by omega) (by rw [c2471, c2472]; omega)) ?_
                    intro I2478 hS2479 e2480 f2481
                    have c2482 : I2478 a0 13 = v2385 := (f2481 _ _ (fun q => absurd q.2 (by decide))).trans c2465
                    have c2483 : I2478 a0 9 = v2387 := (f2481 _ _ (fun q => absurd q.2 (by decide))).trans c2466
                    have c2484 : I2478 a0 10 = v2390 := (f2481 _ _ (fun q => absurd q.2 (by decide))).trans c2467
                    have c2485 : I2478 a0 11 = v2393 := (f2481 _ _ (fun q => absurd q.2 (by decide))).trans c2468
                    have c2486 : I2478 a0 12 = v2397 := (f2481 _ _ (fun q => absurd q.2 (by decide))).trans c2469
                    have c2487 : I2478 a0 8 = v2399 := (f2481 _ _ (fun q => absurd q.2 (by decide))).trans c2470
                    have c2488 : I2478 a2405 v37.toNatClampNeg = x1 := (f2481 _ _ (fun q => by have z := ta2405; rw [q.1, ta1] at z; exact absurd z (by decide))).trans c2471
                    have c2489 : I2478 a2423 v37.toNatClampNeg = v2224 := (f2481 _ _ (fun q => by have z := ta2423; rw [q.1, ta1] at z; exact absurd z (by decide))).trans c2472
                    have hM2490 : NmM I2478 R0 L2340 a1 gQ := NmM.kp1 hM2473 f2481 ta1 rfl rfl hS2461.1 ta1
                    have eF := hF.eq
                    have eP := hP.eq
                    have es2491 := evS_c2 (B := gB) (Q := gQ) (k := srt gB gs) (s := (tkN gB gs)) (by omega)
                    obtain ⟨v2492, c2493⟩ : ∃ v, I2478 a0 14 = v := ⟨_, rfl⟩
                    exact tr_vret hZ dX12_readEvent_164 rfl (by decide) (by decide) ⟨rfl, rfl, rfl, rfl, rfl, hS2479, (Or.inl ⟨(by (try rw [w2197]); (try rw [es2491]); first | done | omega), (fun q0 z0 => by obtain rfl := Option.some.inj ((d2).symm.trans z0); (try rw [w2197]); (try rw [es2491]); (try rw [((hS2479.cell ta1 (by decide +kernel)).trans c30)]); first | done | omega), (fun q0 z0 => by obtain rfl := Option.some.inj ((d2).symm.trans z0); (try rw [w2197]); (try rw [es2491]); (try rw [((hS2479.cell ta1 (by decide +kernel)).trans c34)]); first | done | omega), (fun q0 z0 => by obtain rfl := Option.some.inj ((d2).symm.trans z0); (try rw [w2197]); (try rw [es2491]); (try rw [e2480]); first | done | omega), (fun q0 z0 => by obtain rfl := Option.some.inj ((d2).symm.trans z0); (try rw [w2197]); (try rw [es2491]); (try rw [((hS2479.cell ta1 (by decide +kernel)).trans c42)]); first | done | omega), (fun q0 z0 => by obtain rfl := Option.some.inj ((d2).symm.trans z0); (try rw [w2197]); (try rw [es2491]); (try rw [((hS2479.cell ta1 (by decide +kernel)).trans c46)]); first | done | omega), (fun q0 z0 => by obtain rfl := Option.some.inj ((d2).symm.trans z0); (try rw [w2197]); (try rw [es2491]); (try rw [((hS2479.cell ta1 (by decide +kernel)).trans c50)]); first | done | omega), (fun q0 z0 => by obtain rfl := Option.some.inj ((d2).symm.trans z0); (try rw [w2197]); (try rw [es2491]); (try rw [((hS2479.cell ta1 (by decide +kernel)).trans c54)]); first | done | omega), (fun q0 z0 => by obtain rfl := Option.some.inj ((d2).symm.trans z0); (try rw [w2197]); (try rw [es2491]); (try rw [((hS2479.cell ta1 (by decide +kernel)).trans c58)]); first | done | omega), (by (try rw [w2197]); (try rw [es2491]); (try rw [c2482]); (try rw [c65]); first | done | omega), (by (try rw [w2197]); (try rw [es2491]); (try rw [c2483]); first | done | omega), (by (try rw [w2197]); (try rw [es2491]); (try rw [c2483]); first | done | omega), (by (try rw [w2197]); (try rw [es2491]); (try rw [c2484]); first | done | omega), (by (try rw [w2197]); (try rw [es2491]); (try rw [c2485]); first | done | omega), (by (try rw [w2197]); (try rw [es2491]); (try rw [c2396]); first | done | assumption), (by (try rw [w2197]); (try rw [es2491]); (try rw [c2486]); first | done | assumption), (by (try rw [w2197]); (try rw [es2491]); (try rw [c2487]); first | done | assumption), hL2383, (fun b hb => (Option.some.inj (d2.symm.trans hb)) ▸ NmM.ln (NmM.bd (k := srt gB gs) hM2490 (by omega) (by omega)) rfl), trivial⟩), trivial⟩
                  · skip
                    exfalso; omega
                · skip
                  obtain ⟨v2494, c2495⟩ : ∃ v, I2338 a0 9 = v := ⟨_, rfl⟩
                  have b2496 := iv15_9 hS2346.1 ta0 c2495
                  rw [c2495] at p2365
                  obtain ⟨v2497, c2498⟩ : ∃ v, I2338 a0 13 = v := ⟨_, rfl⟩
                  rw [c2498] at p2366
                  obtain ⟨v2499, c2500⟩ : ∃ v, I2338 a0 14 = v := ⟨_, rfl⟩
                  rw [c2500] at p2367
                  replace hF := hF.pos (by omega)
                  replace hP := hP.pos (by omega)
                  refine tr_istore dX12_readEvent_86 (by decide) (by decide) ?_
                  refine tr_aload_n dX12_readEvent_88 rfl ?_
                  refine q_getI dX12_readEvent_89 fl12_99 (kR15 hS2346.1 ta0) c2495 ?_
                  refine q_iconst dX12_readEvent_92 (by decide) ?_
                  intro v2501 h2502
                  refine q_icmp_ne 97 dX12_readEvent_93 (by decide) (fun h2503 => ?_) (fun h2503 => ?_)
                  · skip
                    exfalso; omega
                  · skip
                    have eF := hF.eq
                    have eP := hP.eq
                    obtain ⟨v2504, c2505⟩ : ∃ v, I2338 a0 10 = v := ⟨_, rfl⟩
                    have b2506 := iv15_10 hS2346.1 ta0 c2505
                    obtain ⟨v2507, c2508⟩ : ∃ v, I2338 a0 11 = v := ⟨_, rfl⟩
                    obtain ⟨y2509, c2510⟩ : ∃ v, L2340 a0 15 = v := ⟨_, rfl⟩
                    obtain ⟨v2511, c2512⟩ : ∃ v, I2338 a0 12 = v := ⟨_, rfl⟩
                    obtain ⟨v2513, c2514⟩ : ∃ v, I2338 a0 8 = v := ⟨_, rfl⟩
                    have b2515 := iv15_8 hS2346.1 ta0 c2514
                    exact tr_vret hZ dX12_readEvent_96 rfl (by decide) (by decide) ⟨rfl, rfl, rfl, rfl, rfl, hS2346, (Or.inr (⟨(by (try rw [w2197]); first | done | omega), (by (try rw [w2197]); (try rw [c2495]); first | done | omega), (by (try rw [w2197]); (try rw [c2498]); first | done | omega), (by (try rw [w2197]); (try rw [c2500]); first | done | omega), trivial⟩)), trivial⟩
                · skip
                  obtain ⟨v2516, c2517⟩ : ∃ v, I2338 a0 9 = v := ⟨_, rfl⟩
                  have b2518 := iv15_9 hS2346.1 ta0 c2517
                  rw [c2517] at p2372
                  obtain ⟨v2519, c2520⟩ : ∃ v, I2338 a0 13 = v := ⟨_, rfl⟩
                  rw [c2520] at p2373
                  obtain ⟨v2521, c2522⟩ : ∃ v, I2338 a0 14 = v := ⟨_, rfl⟩
                  rw [c2522] at p2374
                  replace hF := hF.neg (by omega)
                  replace hP := hP.neg (by omega)
                  replace hF := hF.pos (by omega)
                  replace hP := hP.pos (by omega)
                  refine tr_istore dX12_readEvent_86 (by decide) (by decide) ?_
                  refine tr_aload_n dX12_readEvent_88 rfl ?_
                  refine q_getI dX12_readEvent_89 fl12_99 (kR15 hS2346.1 ta0) c2517 ?_
                  refine q_iconst dX12_readEvent_92 (by decide) ?_
                  intro v2523 h2524
                  refine q_icmp_ne 97 dX12_readEvent_93 (by decide) (fun h2525 => ?_) (fun h2525 => ?_)
                  · skip
                    exfalso; omega
                  · skip
                    have eF := hF.eq
                    have eP := hP.eq
                    obtain ⟨v2526, c2527⟩ : ∃ v, I2338 a0 10 = v := ⟨_, rfl⟩
                    have b2528 := iv15_10 hS2346.1 ta0 c2527
                    obtain ⟨v2529, c2530⟩ : ∃ v, I2338 a0 11 = v := ⟨_, rfl⟩
                    obtain ⟨y2531, c2532⟩ : ∃ v, L2340 a0 15 = v := ⟨_, rfl⟩
                    obtain ⟨v2533, c2534⟩ : ∃ v, I2338 a0 12 = v := ⟨_, rfl⟩
                    obtain ⟨v2535, c2536⟩ : ∃ v, I2338 a0 8 = v := ⟨_, rfl⟩
                    have b2537 := iv15_8 hS2346.1 ta0 c2536
                    exact tr_vret hZ dX12_readEvent_96 rfl (by decide) (by decide) ⟨rfl, rfl, rfl, rfl, rfl, hS2346, (Or.inr (⟨(by (try rw [w2197]); first | done | omega), (by (try rw [w2197]); (try rw [c2517]); first | done | omega), (by (try rw [w2197]); (try rw [c2520]); first | done | omega), (by (try rw [w2197]); (try rw [c2522]); first | done | omega), trivial⟩)), trivial⟩
                · skip
                  obtain ⟨v2538, c2539⟩ : ∃ v, I2338 a0 9 = v := ⟨_, rfl⟩
                  have b2540 := iv15_9 hS2346.1 ta0 c2539
                  rw [c2539] at p2380
                  obtain ⟨v2541, c2542⟩ : ∃ v, I2338 a0 13 = v := ⟨_, rfl⟩
                  rw [c2542] at p2381
                  obtain ⟨v2543, c2544⟩ : ∃ v, I2338 a0 14 = v := ⟨_, rfl⟩
                  rw [c2544] at p2382
                  replace hF := hF.neg (by omega)
                  replace hP := hP.neg (by omega)
                  replace hF := hF.neg (by omega)
                  replace hP := hP.neg (by omega)
                  replace hF := hF.pos (by omega)
                  replace hP := hP.pos (by omega)
                  refine tr_istore dX12_readEvent_86 (by decide) (by decide) ?_
                  refine tr_aload_n dX12_readEvent_88 rfl ?_
                  refine q_getI dX12_readEvent_89 fl12_99 (kR15 hS2346.1 ta0) c2539 ?_
                  refine q_iconst dX12_readEvent_92 (by decide) ?_
                  intro v2545 h2546
                  refine q_icmp_ne 97 dX12_readEvent_93 (by decide) (fun h2547 => ?_) (fun h2547 => ?_)
                  · skip
                    exfalso; omega
                  · skip
                    have eF := hF.eq
                    have eP := hP.eq
                    obtain ⟨v2548, c2549⟩ : ∃ v, I2338 a0 10 = v := ⟨_, rfl⟩
                    have b2550 := iv15_10 hS2346.1 ta0 c2549
                    obtain ⟨v2551, c2552⟩ : ∃ v, I2338 a0 11 = v := ⟨_, rfl⟩
                    obtain ⟨y2553, c2554⟩ : ∃ v, L2340 a0 15 = v := ⟨_, rfl⟩
                    obtain ⟨v2555, c2556⟩ : ∃ v, I2338 a0 12 = v := ⟨_, rfl⟩
                    obtain ⟨v2557, c2558⟩ : ∃ v, I2338 a0 8 = v := ⟨_, rfl⟩
                    have b2559 := iv15_8 hS2346.1 ta0 c2558
                    exact tr_vret hZ dX12_readEvent_96 rfl (by decide) (by decide) ⟨rfl, rfl, rfl, rfl, rfl, hS2346, (Or.inr (⟨(by (try rw [w2197]); first | done | omega), (by (try rw [w2197]); (try rw [c2539]); first | done | omega), (by (try rw [w2197]); (try rw [c2542]); first | done | omega), (by (try rw [w2197]); (try rw [c2544]); first | done | omega), trivial⟩)), trivial⟩
              · skip
                exfalso; omega
            · skip
              obtain ⟨v2560, c2561⟩ : ∃ v, I2278 a0 9 = v := ⟨_, rfl⟩
              have b2562 := iv15_9 hS2286.1 ta0 c2561
              rw [c2561] at p2303
              obtain ⟨v2563, c2564⟩ : ∃ v, I2278 a0 13 = v := ⟨_, rfl⟩
              rw [c2564] at p2304
              obtain ⟨v2565, c2566⟩ : ∃ v, I2278 a0 14 = v := ⟨_, rfl⟩
              rw [c2566] at p2305
              replace hF := hF.pos (by omega)
              replace hP := hP.pos (by omega)
              refine tr_istore_n dX12_readEvent_57 (by decide) (by decide) ?_
              refine tr_iload_n dX12_readEvent_58 rfl ?_
              refine q_iconst dX12_readEvent_59 (by decide) ?_
              intro v2567 h2568
              refine q_icmp_ne 69 dX12_readEvent_60 (by decide) (fun h2569 => ?_) (fun h2569 => ?_)
              · skip
                refine tr_aload_n dX12_readEvent_69 rfl ?_
                refine tr_ldcwS dX12_readEvent_70 ld12_272 ?_
                refine tr_iload_n dX12_readEvent_73 rfl ?_
                refine q_iconst dX12_readEvent_74 (by decide) ?_
                intro v2570 h2571
                refine q_iaddE dX12_readEvent_75 (by intros; omega) ?_
                intro v2572 h2573
                refine tr_aload_n dX12_readEvent_76 rfl ?_
                refine tr_getR dX12_readEvent_77 fl12_188 (kR15 hS2286.1 ta0) d2 ?_
                refine q_getI dX12_readEvent_80 fl12_192 (kR14 hS2286.1 ta1) ((hS2286.cell ta1 (by decide +kernel)).trans c30) ?_
                refine q_callVi hE (M' := mX12_readPart) (as := [_, _, _]) dX12_readEvent_83 lk12_249 inX12_readPart seX12_readPart myX12_readPart (by decide) ⟨by decide, by decide⟩ rfl (kR15 hS2286.1 ta0) (Nat.le_of_ble_eq_true rfl) rfl rfl (by decide) (by decide) (k_X12_readPart hS2286.1 ta0 (by decide)) ?_
                rintro v2578 cn' K' N' I2574 R2575 L2576 ⟨rfl, rfl, rfl, rfl, g2577, p2579, w2580, -⟩
                have hS2581 := hS2286.tr g2577 (by decide +kernel) (by decide +kernel)
                have c2582 : I2574 a1 2 = v37 := (g2577.cell ta1 (by decide +kernel)).trans c2287
                have b2583 : 1 ≤ v2578.toInt ∧ v2578.toInt ≤ 240 := by omega
                clear p2579
                have ov2584 := w2580.over (by rw [c2561]; omega)
                obtain ⟨v2585, c2586⟩ : ∃ v, I2574 a0 9 = v := ⟨_, rfl⟩
                have b2587 := iv15_9 hS2581.1 ta0 c2586
                obtain ⟨v2588, c2589⟩ : ∃ v, I2574 a0 13 = v := ⟨_, rfl⟩
                obtain ⟨v2590, c2591⟩ : ∃ v, I2574 a0 14 = v := ⟨_, rfl⟩
                (try rw [c2586] at ov2584)
                (try rw [c2589] at ov2584)
                (try rw [c2591] at ov2584)
                (try rw [c2561] at ov2584)
                (try rw [c2564] at ov2584)
                (try rw [c2566] at ov2584)
                refine tr_istore dX12_readEvent_86 (by decide) (by decide) ?_
                refine tr_aload_n dX12_readEvent_88 rfl ?_
                refine q_getI dX12_readEvent_89 fl12_99 (kR15 hS2581.1 ta0) c2586 ?_
                refine q_iconst dX12_readEvent_92 (by decide) ?_
                intro v2592 h2593
                refine q_icmp_ne 97 dX12_readEvent_93 (by decide) (fun h2594 => ?_) (fun h2594 => ?_)
                · skip
                  exfalso; omega
                · skip
                  have eF := hF.eq
                  have eP := hP.eq
                  obtain ⟨v2595, c2596⟩ : ∃ v, I2574 a0 10 = v := ⟨_, rfl⟩
                  have b2597 := iv15_10 hS2581.1 ta0 c2596
                  obtain ⟨v2598, c2599⟩ : ∃ v, I2574 a0 11 = v := ⟨_, rfl⟩
                  obtain ⟨y2600, c2601⟩ : ∃ v, L2576 a0 15 = v := ⟨_, rfl⟩
                  obtain ⟨v2602, c2603⟩ : ∃ v, I2574 a0 12 = v := ⟨_, rfl⟩
                  obtain ⟨v2604, c2605⟩ : ∃ v, I2574 a0 8 = v := ⟨_, rfl⟩
                  have b2606 := iv15_8 hS2581.1 ta0 c2605
                  exact tr_vret hZ dX12_readEvent_96 rfl (by decide) (by decide) ⟨rfl, rfl, rfl, rfl, rfl, hS2581, (Or.inr (⟨(by (try rw [w2197]); first | done | omega), (by (try rw [w2197]); (try rw [c2586]); first | done | omega), (by (try rw [w2197]); (try rw [c2589]); first | done | omega), (by (try rw [w2197]); (try rw [c2591]); first | done | omega), trivial⟩)), trivial⟩
              · skip
                exfalso; omega
            · skip
              obtain ⟨v2607, c2608⟩ : ∃ v, I2278 a0 9 = v := ⟨_, rfl⟩
              have b2609 := iv15_9 hS2286.1 ta0 c2608
              rw [c2608] at p2309
              obtain ⟨v2610, c2611⟩ : ∃ v, I2278 a0 13 = v := ⟨_, rfl⟩
              rw [c2611] at p2310
              obtain ⟨v2612, c2613⟩ : ∃ v, I2278 a0 14 = v := ⟨_, rfl⟩
              rw [c2613] at p2311
              replace hF := hF.neg (by omega)
              replace hP := hP.neg (by omega)
              replace hF := hF.pos (by omega)
              replace hP := hP.pos (by omega)
              refine tr_istore_n dX12_readEvent_57 (by decide) (by decide) ?_
              refine tr_iload_n dX12_readEvent_58 rfl ?_
              refine q_iconst dX12_readEvent_59 (by decide) ?_
              intro v2614 h2615
              refine q_icmp_ne 69 dX12_readEvent_60 (by decide) (fun h2616 => ?_) (fun h2616 => ?_)
              · skip
                refine tr_aload_n dX12_readEvent_69 rfl ?_
                refine tr_ldcwS dX12_readEvent_70 ld12_272 ?_
                refine tr_iload_n dX12_readEvent_73 rfl ?_
                refine q_iconst dX12_readEvent_74 (by decide) ?_
                intro v2617 h2618
                refine q_iaddE dX12_readEvent_75 (by intros; omega) ?_
                intro v2619 h2620
                refine tr_aload_n dX12_readEvent_76 rfl ?_
                refine tr_getR dX12_readEvent_77 fl12_188 (kR15 hS2286.1 ta0) d2 ?_
                refine q_getI dX12_readEvent_80 fl12_192 (kR14 hS2286.1 ta1) ((hS2286.cell ta1 (by decide +kernel)).trans c30) ?_
                refine q_callVi hE (M' := mX12_readPart) (as := [_, _, _]) dX12_readEvent_83 lk12_249 inX12_readPart seX12_readPart myX12_readPart (by decide) ⟨by decide, by decide⟩ rfl (kR15 hS2286.1 ta0) (Nat.le_of_ble_eq_true rfl) rfl rfl (by decide) (by decide) (k_X12_readPart hS2286.1 ta0 (by decide)) ?_
                rintro v2625 cn' K' N' I2621 R2622 L2623 ⟨rfl, rfl, rfl, rfl, g2624, p2626, w2627, -⟩
                have hS2628 := hS2286.tr g2624 (by decide +kernel) (by decide +kernel)
                have c2629 : I2621 a1 2 = v37 := (g2624.cell ta1 (by decide +kernel)).trans c2287
                have b2630 : 1 ≤ v2625.toInt ∧ v2625.toInt ≤ 240 := by omega
                clear p2626
                have ov2631 := w2627.over (by rw [c2608]; omega)
                obtain ⟨v2632, c2633⟩ : ∃ v, I2621 a0 9 = v := ⟨_, rfl⟩
                have b2634 := iv15_9 hS2628.1 ta0 c2633
                obtain ⟨v2635, c2636⟩ : ∃ v, I2621 a0 13 = v := ⟨_, rfl⟩
                obtain ⟨v2637, c2638⟩ : ∃ v, I2621 a0 14 = v := ⟨_, rfl⟩
                (try rw [c2633] at ov2631)
                (try rw [c2636] at ov2631)
                (try rw [c2638] at ov2631)
                (try rw [c2608] at ov2631)
                (try rw [c2611] at ov2631)
                (try rw [c2613] at ov2631)
                refine tr_istore dX12_readEvent_86 (by decide) (by decide) ?_
                refine tr_aload_n dX12_readEvent_88 rfl ?_
                refine q_getI dX12_readEvent_89 fl12_99 (kR15 hS2628.1 ta0) c2633 ?_
                refine q_iconst dX12_readEvent_92 (by decide) ?_
                intro v2639 h2640
                refine q_icmp_ne 97 dX12_readEvent_93 (by decide) (fun h2641 => ?_) (fun h2641 => ?_)
                · skip
                  exfalso; omega
                · skip
                  have eF := hF.eq
                  have eP := hP.eq
                  obtain ⟨v2642, c2643⟩ : ∃ v, I2621 a0 10 = v := ⟨_, rfl⟩
                  have b2644 := iv15_10 hS2628.1 ta0 c2643
                  obtain ⟨v2645, c2646⟩ : ∃ v, I2621 a0 11 = v := ⟨_, rfl⟩
                  obtain ⟨y2647, c2648⟩ : ∃ v, L2623 a0 15 = v := ⟨_, rfl⟩
                  obtain ⟨v2649, c2650⟩ : ∃ v, I2621 a0 12 = v := ⟨_, rfl⟩
                  obtain ⟨v2651, c2652⟩ : ∃ v, I2621 a0 8 = v := ⟨_, rfl⟩
                  have b2653 := iv15_8 hS2628.1 ta0 c2652
                  exact tr_vret hZ dX12_readEvent_96 rfl (by decide) (by decide) ⟨rfl, rfl, rfl, rfl, rfl, hS2628, (Or.inr (⟨(by (try rw [w2197]); first | done | omega), (by (try rw [w2197]); (try rw [c2633]); first | done | omega), (by (try rw [w2197]); (try rw [c2636]); first | done | omega), (by (try rw [w2197]); (try rw [c2638]); first | done | omega), trivial⟩)), trivial⟩
              · skip
                exfalso; omega
          · skip
            obtain ⟨v2654, c2655⟩ : ∃ v, I2219 a0 9 = v := ⟨_, rfl⟩
            have b2656 := iv15_9 hS2227.1 ta0 c2655
            rw [c2655] at p2244
            obtain ⟨v2657, c2658⟩ : ∃ v, I2219 a0 13 = v := ⟨_, rfl⟩
            rw [c2658] at p2245
            obtain ⟨v2659, c2660⟩ : ∃ v, I2219 a0 14 = v := ⟨_, rfl⟩
            rw [c2660] at p2246
            replace hF := hF.pos (by omega)
            replace hP := hP.pos (by omega)
            refine tr_goto 42 dX12_readEvent_37 (by decide) ?_
            refine tr_istore_n dX12_readEvent_42 (by decide) (by decide) ?_
            refine tr_aload_n dX12_readEvent_43 rfl ?_
            refine q_iconst dX12_readEvent_44 (by decide) ?_
            intro v2661 h2662
            refine tr_aload_n dX12_readEvent_45 rfl ?_
            refine tr_getR dX12_readEvent_46 fl12_188 (kR15 hS2227.1 ta0) d2 ?_
            refine q_getI dX12_readEvent_49 fl12_192 (kR14 hS2227.1 ta1) ((hS2227.cell ta1 (by decide +kernel)).trans c30) ?_
            refine q_iconst dX12_readEvent_52 (by decide) ?_
            intro v2663 h2664
            refine q_isubE dX12_readEvent_53 (by intros; omega) ?_
            intro v2665 h2666
            refine q_callVi hE (M' := mX12_readWhole) (as := [_, _]) dX12_readEvent_54 lk12_161 inX12_readWhole seX12_readWhole myX12_readWhole (by decide) ⟨by decide, by decide⟩ rfl (kR15 hS2227.1 ta0) (Nat.le_of_ble_eq_true rfl) rfl rfl (by decide) (by decide) (k_X12_readWhole hS2227.1 ta0) ?_
            rintro v2671 cn' K' N' I2667 R2668 L2669 ⟨rfl, rfl, rfl, rfl, g2670, p2672, w2673, -⟩
            have hS2674 := hS2227.tr g2670 (by decide +kernel) (by decide +kernel)
            have c2675 : I2667 a1 2 = v37 := (g2670.cell ta1 (by decide +kernel)).trans c2228
            have b2676 : 0 ≤ v2671.toInt ∧ v2671.toInt ≤ 239 := by omega
            clear p2672
            have ov2677 := w2673.over (by rw [c2655]; omega)
            obtain ⟨v2678, c2679⟩ : ∃ v, I2667 a0 9 = v := ⟨_, rfl⟩
            have b2680 := iv15_9 hS2674.1 ta0 c2679
            obtain ⟨v2681, c2682⟩ : ∃ v, I2667 a0 13 = v := ⟨_, rfl⟩
            obtain ⟨v2683, c2684⟩ : ∃ v, I2667 a0 14 = v := ⟨_, rfl⟩
            (try rw [c2679] at ov2677)
            (try rw [c2682] at ov2677)
            (try rw [c2684] at ov2677)
            (try rw [c2655] at ov2677)
            (try rw [c2658] at ov2677)
            (try rw [c2660] at ov2677)
            refine tr_istore_n dX12_readEvent_57 (by decide) (by decide) ?_
            refine tr_iload_n dX12_readEvent_58 rfl ?_
            refine q_iconst dX12_readEvent_59 (by decide) ?_
            intro v2685 h2686
            refine q_icmp_ne 69 dX12_readEvent_60 (by decide) (fun h2687 => ?_) (fun h2687 => ?_)
            · skip
              refine tr_aload_n dX12_readEvent_69 rfl ?_
              refine tr_ldcwS dX12_readEvent_70 ld12_272 ?_
              refine tr_iload_n dX12_readEvent_73 rfl ?_
              refine q_iconst dX12_readEvent_74 (by decide) ?_
              intro v2688 h2689
              refine q_iaddE dX12_readEvent_75 (by intros; omega) ?_
              intro v2690 h2691
              refine tr_aload_n dX12_readEvent_76 rfl ?_
              refine tr_getR dX12_readEvent_77 fl12_188 (kR15 hS2674.1 ta0) d2 ?_
              refine q_getI dX12_readEvent_80 fl12_192 (kR14 hS2674.1 ta1) ((hS2674.cell ta1 (by decide +kernel)).trans c30) ?_
              refine q_callVi hE (M' := mX12_readPart) (as := [_, _, _]) dX12_readEvent_83 lk12_249 inX12_readPart seX12_readPart myX12_readPart (by decide) ⟨by decide, by decide⟩ rfl (kR15 hS2674.1 ta0) (Nat.le_of_ble_eq_true rfl) rfl rfl (by decide) (by decide) (k_X12_readPart hS2674.1 ta0 (by decide)) ?_
              rintro v2696 cn' K' N' I2692 R2693 L2694 ⟨rfl, rfl, rfl, rfl, g2695, p2697, w2698, -⟩
              have hS2699 := hS2674.tr g2695 (by decide +kernel) (by decide +kernel)
              have c2700 : I2692 a1 2 = v37 := (g2695.cell ta1 (by decide +kernel)).trans c2675
              have b2701 : 1 ≤ v2696.toInt ∧ v2696.toInt ≤ 240 := by omega
              clear p2697
              have ov2702 := w2698.over (by rw [c2679]; omega)
              obtain ⟨v2703, c2704⟩ : ∃ v, I2692 a0 9 = v := ⟨_, rfl⟩
              have b2705 := iv15_9 hS2699.1 ta0 c2704
              obtain ⟨v2706, c2707⟩ : ∃ v, I2692 a0 13 = v := ⟨_, rfl⟩
              obtain ⟨v2708, c2709⟩ : ∃ v, I2692 a0 14 = v := ⟨_, rfl⟩
              (try rw [c2704] at ov2702)
              (try rw [c2707] at ov2702)
              (try rw [c2709] at ov2702)
              (try rw [c2679] at ov2702)
              (try rw [c2682] at ov2702)
              (try rw [c2684] at ov2702)
              refine tr_istore dX12_readEvent_86 (by decide) (by decide) ?_
              refine tr_aload_n dX12_readEvent_88 rfl ?_
              refine q_getI dX12_readEvent_89 fl12_99 (kR15 hS2699.1 ta0) c2704 ?_
              refine q_iconst dX12_readEvent_92 (by decide) ?_
              intro v2710 h2711
              refine q_icmp_ne 97 dX12_readEvent_93 (by decide) (fun h2712 => ?_) (fun h2712 => ?_)
              · skip
                exfalso; omega
              · skip
                have eF := hF.eq
                have eP := hP.eq
                obtain ⟨v2713, c2714⟩ : ∃ v, I2692 a0 10 = v := ⟨_, rfl⟩
                have b2715 := iv15_10 hS2699.1 ta0 c2714
                obtain ⟨v2716, c2717⟩ : ∃ v, I2692 a0 11 = v := ⟨_, rfl⟩
                obtain ⟨y2718, c2719⟩ : ∃ v, L2694 a0 15 = v := ⟨_, rfl⟩
                obtain ⟨v2720, c2721⟩ : ∃ v, I2692 a0 12 = v := ⟨_, rfl⟩
                obtain ⟨v2722, c2723⟩ : ∃ v, I2692 a0 8 = v := ⟨_, rfl⟩
                have b2724 := iv15_8 hS2699.1 ta0 c2723
                exact tr_vret hZ dX12_readEvent_96 rfl (by decide) (by decide) ⟨rfl, rfl, rfl, rfl, rfl, hS2699, (Or.inr (⟨(by (try rw [w2197]); first | done | omega), (by (try rw [w2197]); (try rw [c2704]); first | done | omega), (by (try rw [w2197]); (try rw [c2707]); first | done | omega), (by (try rw [w2197]); (try rw [c2709]); first | done | omega), trivial⟩)), trivial⟩
            · skip
              exfalso; omega
          · skip
            obtain ⟨v2725, c2726⟩ : ∃ v, I2219 a0 9 = v := ⟨_, rfl⟩
            have b2727 := iv15_9 hS2227.1 ta0 c2726
            rw [c2726] at p2250
            obtain ⟨v2728, c2729⟩ : ∃ v, I2219 a0 13 = v := ⟨_, rfl⟩
            rw [c2729] at p2251
            obtain ⟨v2730, c2731⟩ : ∃ v, I2219 a0 14 = v := ⟨_, rfl⟩
            rw [c2731] at p2252
            replace hF := hF.neg (by omega)
            replace hP := hP.neg (by omega)
            replace hF := hF.pos (by omega)
            replace hP := hP.pos (by omega)
            refine tr_goto 42 dX12_readEvent_37 (by decide) ?_
            refine tr_istore_n dX12_readEvent_42 (by decide) (by decide) ?_
            refine tr_aload_n dX12_readEvent_43 rfl ?_
            refine q_iconst dX12_readEvent_44 (by decide) ?_
            intro v2732 h2733
            refine tr_aload_n dX12_readEvent_45 rfl ?_
            refine tr_getR dX12_readEvent_46 fl12_188 (kR15 hS2227.1 ta0) d2 ?_
            refine q_getI dX12_readEvent_49 fl12_192 (kR14 hS2227.1 ta1) ((hS2227.cell ta1 (by decide +kernel)).trans c30) ?_
            refine q_iconst dX12_readEvent_52 (by decide) ?_
            intro v2734 h2735
            refine q_isubE dX12_readEvent_53 (by intros; omega) ?_
            intro v2736 h2737
            refine q_callVi hE (M' := mX12_readWhole) (as := [_, _]) dX12_readEvent_54 lk12_161 inX12_readWhole seX12_readWhole myX12_readWhole (by decide) ⟨by decide, by decide⟩ rfl (kR15 hS2227.1 ta0) (Nat.le_of_ble_eq_true rfl) rfl rfl (by decide) (by decide) (k_X12_readWhole hS2227.1 ta0) ?_
            rintro v2742 cn' K' N' I2738 R2739 L2740 ⟨rfl, rfl, rfl, rfl, g2741, p2743, w2744, -⟩
            have hS2745 := hS2227.tr g2741 (by decide +kernel) (by decide +kernel)
            have c2746 : I2738 a1 2 = v37 := (g2741.cell ta1 (by decide +kernel)).trans c2228
            have b2747 : 0 ≤ v2742.toInt ∧ v2742.toInt ≤ 239 := by omega
            clear p2743
            have ov2748 := w2744.over (by rw [c2726]; omega)
            obtain ⟨v2749, c2750⟩ : ∃ v, I2738 a0 9 = v := ⟨_, rfl⟩
            have b2751 := iv15_9 hS2745.1 ta0 c2750
            obtain ⟨v2752, c2753⟩ : ∃ v, I2738 a0 13 = v := ⟨_, rfl⟩
            obtain ⟨v2754, c2755⟩ : ∃ v, I2738 a0 14 = v := ⟨_, rfl⟩
            (try rw [c2750] at ov2748)
            (try rw [c2753] at ov2748)
            (try rw [c2755] at ov2748)
            (try rw [c2726] at ov2748)
            (try rw [c2729] at ov2748)
            (try rw [c2731] at ov2748)
            refine tr_istore_n dX12_readEvent_57 (by decide) (by decide) ?_
            refine tr_iload_n dX12_readEvent_58 rfl ?_
            refine q_iconst dX12_readEvent_59 (by decide) ?_
            intro v2756 h2757
            refine q_icmp_ne 69 dX12_readEvent_60 (by decide) (fun h2758 => ?_) (fun h2758 => ?_)
            · skip
              refine tr_aload_n dX12_readEvent_69 rfl ?_
              refine tr_ldcwS dX12_readEvent_70 ld12_272 ?_
              refine tr_iload_n dX12_readEvent_73 rfl ?_
              refine q_iconst dX12_readEvent_74 (by decide) ?_
              intro v2759 h2760
              refine q_iaddE dX12_readEvent_75 (by intros; omega) ?_
              intro v2761 h2762
              refine tr_aload_n dX12_readEvent_76 rfl ?_
              refine tr_getR dX12_readEvent_77 fl12_188 (kR15 hS2745.1 ta0) d2 ?_
              refine q_getI dX12_readEvent_80 fl12_192 (kR14 hS2745.1 ta1) ((hS2745.cell ta1 (by decide +kernel)).trans c30) ?_
              refine q_callVi hE (M' := mX12_readPart) (as := [_, _, _]) dX12_readEvent_83 lk12_249 inX12_readPart seX12_readPart myX12_readPart (by decide) ⟨by decide, by decide⟩ rfl (kR15 hS2745.1 ta0) (Nat.le_of_ble_eq_true rfl) rfl rfl (by decide) (by decide) (k_X12_readPart hS2745.1 ta0 (by decide)) ?_
              rintro v2767 cn' K' N' I2763 R2764 L2765 ⟨rfl, rfl, rfl, rfl, g2766, p2768, w2769, -⟩
              have hS2770 := hS2745.tr g2766 (by decide +kernel) (by decide +kernel)
              have c2771 : I2763 a1 2 = v37 := (g2766.cell ta1 (by decide +kernel)).trans c2746
              have b2772 : 1 ≤ v2767.toInt ∧ v2767.toInt ≤ 240 := by omega
              clear p2768
              have ov2773 := w2769.over (by rw [c2750]; omega)
              obtain ⟨v2774, c2775⟩ : ∃ v, I2763 a0 9 = v := ⟨_, rfl⟩
              have b2776 := iv15_9 hS2770.1 ta0 c2775
              obtain ⟨v2777, c2778⟩ : ∃ v, I2763 a0 13 = v := ⟨_, rfl⟩
              obtain ⟨v2779, c2780⟩ : ∃ v, I2763 a0 14 = v := ⟨_, rfl⟩
              (try rw [c2775] at ov2773)
              (try rw [c2778] at ov2773)
              (try rw [c2780] at ov2773)
              (try rw [c2750] at ov2773)
              (try rw [c2753] at ov2773)
              (try rw [c2755] at ov2773)
              refine tr_istore dX12_readEvent_86 (by decide) (by decide) ?_
              refine tr_aload_n dX12_readEvent_88 rfl ?_
              refine q_getI dX12_readEvent_89 fl12_99 (kR15 hS2770.1 ta0) c2775 ?_
              refine q_iconst dX12_readEvent_92 (by decide) ?_
              intro v2781 h2782
              refine q_icmp_ne 97 dX12_readEvent_93 (by decide) (fun h2783 => ?_) (fun h2783 => ?_)
              · skip
                exfalso; omega
              · skip
                have eF := hF.eq
                have eP := hP.eq
                obtain ⟨v2784, c2785⟩ : ∃ v, I2763 a0 10 = v := ⟨_, rfl⟩
                have b2786 := iv15_10 hS2770.1 ta0 c2785
                obtain ⟨v2787, c2788⟩ : ∃ v, I2763 a0 11 = v := ⟨_, rfl⟩
                obtain ⟨y2789, c2790⟩ : ∃ v, L2765 a0 15 = v := ⟨_, rfl⟩
                obtain ⟨v2791, c2792⟩ : ∃ v, I2763 a0 12 = v := ⟨_, rfl⟩
                obtain ⟨v2793, c2794⟩ : ∃ v, I2763 a0 8 = v := ⟨_, rfl⟩
                have b2795 := iv15_8 hS2770.1 ta0 c2794
                exact tr_vret hZ dX12_readEvent_96 rfl (by decide) (by decide) ⟨rfl, rfl, rfl, rfl, rfl, hS2770, (Or.inr (⟨(by (try rw [w2197]); first | done | omega), (by (try rw [w2197]); (try rw [c2775]); first | done | omega), (by (try rw [w2197]); (try rw [c2778]); first | done | omega), (by (try rw [w2197]); (try rw [c2780]); first | done | omega), trivial⟩)), trivial⟩
            · skip
              exfalso; omega
    · skip
      obtain ⟨v2796, c2797⟩ : ∃ v, I2145 a0 9 = v := ⟨_, rfl⟩
      have b2798 := iv15_9 hS2153.1 ta0 c2797
      rw [c2797] at p2167
      obtain ⟨v2799, c2800⟩ : ∃ v, I2145 a0 13 = v := ⟨_, rfl⟩
      rw [c2800] at p2168
      obtain ⟨v2801, c2802⟩ : ∃ v, I2145 a0 14 = v := ⟨_, rfl⟩
      rw [c2802] at p2169
      have p2803 := p61
      unfold Q7M at p2803
      replace hF := hF.pos (by omega)
      replace hP := hP.pos (by omega)
      clear p2803
      refine tr_iload_n dX12_readEvent_13 rfl ?_
      refine q_iconst dX12_readEvent_14 (by decide) ?_
      intro v2804 h2805
      refine q_icmp_eq 23 dX12_readEvent_15 (by decide) (fun h2806 => ?_) (fun h2806 => ?_)
      · skip
        exfalso; omega
      · skip
        refine tr_iload_n dX12_readEvent_18 rfl ?_
        refine q_iconst dX12_readEvent_19 (by decide) ?_
        intro v2807 h2808
        refine q_icmp_ne 40 dX12_readEvent_20 (by decide) (fun h2809 => ?_) (fun h2809 => ?_)
        · skip
          exfalso; omega
        · skip
          refine tr_aload_n dX12_readEvent_23 rfl ?_
          refine q_iconst dX12_readEvent_24 (by decide) ?_
          intro v2810 h2811
          refine tr_aload_n dX12_readEvent_25 rfl ?_
          refine tr_getR dX12_readEvent_26 fl12_188 (kR15 hS2153.1 ta0) d2 ?_
          refine q_getI dX12_readEvent_29 fl12_263 (kR14 hS2153.1 ta1) ((hS2153.cell ta1 (by decide +kernel)).trans c34) ?_
          refine q_iconst dX12_readEvent_32 (by decide) ?_
          intro v2812 h2813
          refine q_isubE dX12_readEvent_33 (by intros; omega) ?_
          intro v2814 h2815
          refine q_callVi hE (M' := mX12_readWhole) (as := [_, _]) dX12_readEvent_34 lk12_161 inX12_readWhole seX12_readWhole myX12_readWhole (by decide) ⟨by decide, by decide⟩ rfl (kR15 hS2153.1 ta0) (Nat.le_of_ble_eq_true rfl) rfl rfl (by decide) (by decide) (k_X12_readWhole hS2153.1 ta0) ?_
          rintro v2820 cn' K' N' I2816 R2817 L2818 ⟨rfl, rfl, rfl, rfl, g2819, p2821, w2822, -⟩
          have hS2823 := hS2153.tr g2819 (by decide +kernel) (by decide +kernel)
          have c2824 : I2816 a1 2 = v37 := (g2819.cell ta1 (by decide +kernel)).trans c2154
          have b2825 : 0 ≤ v2820.toInt ∧ v2820.toInt ≤ 3 := by omega
          clear p2821
          have ov2826 := w2822.over (by rw [c2797]; omega)
          obtain ⟨v2827, c2828⟩ : ∃ v, I2816 a0 9 = v := ⟨_, rfl⟩
          have b2829 := iv15_9 hS2823.1 ta0 c2828
          obtain ⟨v2830, c2831⟩ : ∃ v, I2816 a0 13 = v := ⟨_, rfl⟩
          obtain ⟨v2832, c2833⟩ : ∃ v, I2816 a0 14 = v := ⟨_, rfl⟩
          (try rw [c2828] at ov2826)
          (try rw [c2831] at ov2826)
          (try rw [c2833] at ov2826)
          (try rw [c2797] at ov2826)
          (try rw [c2800] at ov2826)
          (try rw [c2802] at ov2826)
          refine tr_goto 42 dX12_readEvent_37 (by decide) ?_
          refine tr_istore_n dX12_readEvent_42 (by decide) (by decide) ?_
          refine tr_aload_n dX12_readEvent_43 rfl ?_
          refine q_iconst dX12_readEvent_44 (by decide) ?_
          intro v2834 h2835
          refine tr_aload_n dX12_readEvent_45 rfl ?_
          refine tr_getR dX12_readEvent_46 fl12_188 (kR15 hS2823.1 ta0) d2 ?_
          refine q_getI dX12_readEvent_49 fl12_192 (kR14 hS2823.1 ta1) ((hS2823.cell ta1 (by decide +kernel)).trans c30) ?_
          refine q_iconst dX12_readEvent_52 (by decide) ?_
          intro v2836 h2837
          refine q_isubE dX12_readEvent_53 (by intros; omega) ?_
          intro v2838 h2839
          refine q_callVi hE (M' := mX12_readWhole) (as := [_, _]) dX12_readEvent_54 lk12_161 inX12_readWhole seX12_readWhole myX12_readWhole (by decide) ⟨by decide, by decide⟩ rfl (kR15 hS2823.1 ta0) (Nat.le_of_ble_eq_true rfl) rfl rfl (by decide) (by decide) (k_X12_readWhole hS2823.1 ta0) ?_
          rintro v2844 cn' K' N' I2840 R2841 L2842 ⟨rfl, rfl, rfl, rfl, g2843, p2845, w2846, -⟩
          have hS2847 := hS2823.tr g2843 (by decide +kernel) (by decide +kernel)
          have c2848 : I2840 a1 2 = v37 := (g2843.cell ta1 (by decide +kernel)).trans c2824
          have b2849 : 0 ≤ v2844.toInt ∧ v2844.toInt ≤ 239 := by omega
          clear p2845
          have ov2850 := w2846.over (by rw [c2828]; omega)
          obtain ⟨v2851, c2852⟩ : ∃ v, I2840 a0 9 = v := ⟨_, rfl⟩
          have b2853 := iv15_9 hS2847.1 ta0 c2852
          obtain ⟨v2854, c2855⟩ : ∃ v, I2840 a0 13 = v := ⟨_, rfl⟩
          obtain ⟨v2856, c2857⟩ : ∃ v, I2840 a0 14 = v := ⟨_, rfl⟩
          (try rw [c2852] at ov2850)
          (try rw [c2855] at ov2850)
          (try rw [c2857] at ov2850)
          (try rw [c2828] at ov2850)
          (try rw [c2831] at ov2850)
          (try rw [c2833] at ov2850)
          refine tr_istore_n dX12_readEvent_57 (by decide) (by decide) ?_
          refine tr_iload_n dX12_readEvent_58 rfl ?_
          refine q_iconst dX12_readEvent_59 (by decide) ?_
          intro v2858 h2859
          refine q_icmp_ne 69 dX12_readEvent_60 (by decide) (fun h2860 => ?_) (fun h2860 => ?_)
          · skip
            refine tr_aload_n dX12_readEvent_69 rfl ?_
            refine tr_ldcwS dX12_readEvent_70 ld12_272 ?_
            refine tr_iload_n dX12_readEvent_73 rfl ?_
            refine q_iconst dX12_readEvent_74 (by decide) ?_
            intro v2861 h2862
            refine q_iaddE dX12_readEvent_75 (by intros; omega) ?_
            intro v2863 h2864
            refine tr_aload_n dX12_readEvent_76 rfl ?_
            refine tr_getR dX12_readEvent_77 fl12_188 (kR15 hS2847.1 ta0) d2 ?_
            refine q_getI dX12_readEvent_80 fl12_192 (kR14 hS2847.1 ta1) ((hS2847.cell ta1 (by decide +kernel)).trans c30) ?_
            refine q_callVi hE (M' := mX12_readPart) (as := [_, _, _]) dX12_readEvent_83 lk12_249 inX12_readPart seX12_readPart myX12_readPart (by decide) ⟨by decide, by decide⟩ rfl (kR15 hS2847.1 ta0) (Nat.le_of_ble_eq_true rfl) rfl rfl (by decide) (by decide) (k_X12_readPart hS2847.1 ta0 (by decide)) ?_
            rintro v2869 cn' K' N' I2865 R2866 L2867 ⟨rfl, rfl, rfl, rfl, g2868, p2870, w2871, -⟩
            have hS2872 := hS2847.tr g2868 (by decide +kernel) (by decide +kernel)
            have c2873 : I2865 a1 2 = v37 := (g2868.cell ta1 (by decide +kernel)).trans c2848
            have b2874 : 1 ≤ v2869.toInt ∧ v2869.toInt ≤ 240 := by omega
            clear p2870
            have ov2875 := w2871.over (by rw [c2852]; omega)
            obtain ⟨v2876, c2877⟩ : ∃ v, I2865 a0 9 = v := ⟨_, rfl⟩
            have b2878 := iv15_9 hS2872.1 ta0 c2877
            obtain ⟨v2879, c2880⟩ : ∃ v, I2865 a0 13 = v := ⟨_, rfl⟩
            obtain ⟨v2881, c2882⟩ : ∃ v, I2865 a0 14 = v := ⟨_, rfl⟩
            (try rw [c2877] at ov2875)
            (try rw [c2880] at ov2875)
            (try rw [c2882] at ov2875)
            (try rw [c2852] at ov2875)
            (try rw [c2855] at ov2875)
            (try rw [c2857] at ov2875)
            refine tr_istore dX12_readEvent_86 (by decide) (by decide) ?_
            refine tr_aload_n dX12_readEvent_88 rfl ?_
            refine q_getI dX12_readEvent_89 fl12_99 (kR15 hS2872.1 ta0) c2877 ?_
            refine q_iconst dX12_readEvent_92 (by decide) ?_
            intro v2883 h2884
            refine q_icmp_ne 97 dX12_readEvent_93 (by decide) (fun h2885 => ?_) (fun h2885 => ?_)
            · skip
              exfalso; omega
            · skip
              have eF := hF.eq
              have eP := hP.eq
              obtain ⟨v2886, c2887⟩ : ∃ v, I2865 a0 10 = v := ⟨_, rfl⟩
              have b2888 := iv15_10 hS2872.1 ta0 c2887
              obtain ⟨v2889, c2890⟩ : ∃ v, I2865 a0 11 = v := ⟨_, rfl⟩
              obtain ⟨y2891, c2892⟩ : ∃ v, L2867 a0 15 = v := ⟨_, rfl⟩
              obtain ⟨v2893, c2894⟩ : ∃ v, I2865 a0 12 = v := ⟨_, rfl⟩
              obtain ⟨v2895, c2896⟩ : ∃ v, I2865 a0 8 = v := ⟨_, rfl⟩
              have b2897 := iv15_8 hS2872.1 ta0 c2896
              exact tr_vret hZ dX12_readEvent_96 rfl (by decide) (by decide) ⟨rfl, rfl, rfl, rfl, rfl, hS2872, (Or.inr (⟨(by first | done | omega), (by (try rw [c2877]); first | done | omega), (by (try rw [c2880]); first | done | omega), (by (try rw [c2882]); first | done | omega), trivial⟩)), trivial⟩
          · skip
            exfalso; omega
    · skip
      obtain ⟨v2898, c2899⟩ : ∃ v, I2145 a0 9 = v := ⟨_, rfl⟩
      have b2900 := iv15_9 hS2153.1 ta0 c2899
      rw [c2899] at p2172
      obtain ⟨v2901, c2902⟩ : ∃ v, I2145 a0 13 = v := ⟨_, rfl⟩
      rw [c2902] at p2173
      obtain ⟨v2903, c2904⟩ : ∃ v, I2145 a0 14 = v := ⟨_, rfl⟩
      rw [c2904] at p2174
      have p2905 := p61
      unfold Q7M at p2905
      replace hF := hF.neg (by omega)
      replace hP := hP.neg (by omega)
      replace hF := hF.pos (by omega)
      replace hP := hP.pos (by omega)
      clear p2905
      refine tr_iload_n dX12_readEvent_13 rfl ?_
      refine q_iconst dX12_readEvent_14 (by decide) ?_
      intro v2906 h2907
      refine q_icmp_eq 23 dX12_readEvent_15 (by decide) (fun h2908 => ?_) (fun h2908 => ?_)
      · skip
        exfalso; omega
      · skip
        refine tr_iload_n dX12_readEvent_18 rfl ?_
        refine q_iconst dX12_readEvent_19 (by decide) ?_
        intro v2909 h2910
        refine q_icmp_ne 40 dX12_readEvent_20 (by decide) (fun h2911 => ?_) (fun h2911 => ?_)
        · skip
          exfalso; omega
        · skip
          refine tr_aload_n dX12_readEvent_23 rfl ?_
          refine q_iconst dX12_readEvent_24 (by decide) ?_
          intro v2912 h2913
          refine tr_aload_n dX12_readEvent_25 rfl ?_
          refine tr_getR dX12_readEvent_26 fl12_188 (kR15 hS2153.1 ta0) d2 ?_
          refine q_getI dX12_readEvent_29 fl12_263 (kR14 hS2153.1 ta1) ((hS2153.cell ta1 (by decide +kernel)).trans c34) ?_
          refine q_iconst dX12_readEvent_32 (by decide) ?_
          intro v2914 h2915
          refine q_isubE dX12_readEvent_33 (by intros; omega) ?_
          intro v2916 h2917
          refine q_callVi hE (M' := mX12_readWhole) (as := [_, _]) dX12_readEvent_34 lk12_161 inX12_readWhole seX12_readWhole myX12_readWhole (by decide) ⟨by decide, by decide⟩ rfl (kR15 hS2153.1 ta0) (Nat.le_of_ble_eq_true rfl) rfl rfl (by decide) (by decide) (k_X12_readWhole hS2153.1 ta0) ?_
          rintro v2922 cn' K' N' I2918 R2919 L2920 ⟨rfl, rfl, rfl, rfl, g2921, p2923, w2924, -⟩
          have hS2925 := hS2153.tr g2921 (by decide +kernel) (by decide +kernel)
          have c2926 : I2918 a1 2 = v37 := (g2921.cell ta1 (by decide +kernel)).trans c2154
          have b2927 : 0 ≤ v2922.toInt ∧ v2922.toInt ≤ 3 := by omega
          clear p2923
          have ov2928 := w2924.over (by rw [c2899]; omega)
          obtain ⟨v2929, c2930⟩ : ∃ v, I2918 a0 9 = v := ⟨_, rfl⟩
          have b2931 := iv15_9 hS2925.1 ta0 c2930
          obtain ⟨v2932, c2933⟩ : ∃ v, I2918 a0 13 = v := ⟨_, rfl⟩
          obtain ⟨v2934, c2935⟩ : ∃ v, I2918 a0 14 = v := ⟨_, rfl⟩
          (try rw [c2930] at ov2928)
          (try rw [c2933] at ov2928)
          (try rw [c2935] at ov2928)
          (try rw [c2899] at ov2928)
          (try rw [c2902] at ov2928)
          (try rw [c2904] at ov2928)
          refine tr_goto 42 dX12_readEvent_37 (by decide) ?_
          refine tr_istore_n dX12_readEvent_42 (by decide) (by decide) ?_
          refine tr_aload_n dX12_readEvent_43 rfl ?_
          refine q_iconst dX12_readEvent_44 (by decide) ?_
          intro v2936 h2937
          refine tr_aload_n dX12_readEvent_45 rfl ?_
          refine tr_getR dX12_readEvent_46 fl12_188 (kR15 hS2925.1 ta0) d2 ?_
          refine q_getI dX12_readEvent_49 fl12_192 (kR14 hS2925.1 ta1) ((hS2925.cell ta1 (by decide +kernel)).trans c30) ?_
          refine q_iconst dX12_readEvent_52 (by decide) ?_
          intro v2938 h2939
          refine q_isubE dX12_readEvent_53 (by intros; omega) ?_
          intro v2940 h2941
          refine q_callVi hE (M' := mX12_readWhole) (as := [_, _]) dX12_readEvent_54 lk12_161 inX12_readWhole seX12_readWhole myX12_readWhole (by decide) ⟨by decide, by decide⟩ rfl (kR15 hS2925.1 ta0) (Nat.le_of_ble_eq_true rfl) rfl rfl (by decide) (by decide) (k_X12_readWhole hS2925.1 ta0) ?_
          rintro v2946 cn' K' N' I2942 R2943 L2944 ⟨rfl, rfl, rfl, rfl, g2945, p2947, w2948, -⟩
          have hS2949 := hS2925.tr g2945 (by decide +kernel) (by decide +kernel)
          have c2950 : I2942 a1 2 = v37 := (g2945.cell ta1 (by decide +kernel)).trans c2926
          have b2951 : 0 ≤ v2946.toInt ∧ v2946.toInt ≤ 0 := by omega
          clear p2947
          have ov2952 := w2948.over (by rw [c2930]; omega)
          obtain ⟨v2953, c2954⟩ : ∃ v, I2942 a0 9 = v := ⟨_, rfl⟩
          have b2955 := iv15_9 hS2949.1 ta0 c2954
          obtain ⟨v2956, c2957⟩ : ∃ v, I2942 a0 13 = v := ⟨_, rfl⟩
          obtain ⟨v2958, c2959⟩ : ∃ v, I2942 a0 14 = v := ⟨_, rfl⟩
          (try rw [c2954] at ov2952)
          (try rw [c2957] at ov2952)
          (try rw [c2959] at ov2952)
          (try rw [c2930] at ov2952)
          (try rw [c2933] at ov2952)
          (try rw [c2935] at ov2952)
          refine tr_istore_n dX12_readEvent_57 (by decide) (by decide) ?_
          refine tr_iload_n dX12_readEvent_58 rfl ?_
          refine q_iconst dX12_readEvent_59 (by decide) ?_
          intro v2960 h2961
          refine q_icmp_ne 69 dX12_readEvent_60 (by decide) (fun h2962 => ?_) (fun h2962 => ?_)
          · skip
            refine tr_aload_n dX12_readEvent_69 rfl ?_
            refine tr_ldcwS dX12_readEvent_70 ld12_272 ?_
            refine tr_iload_n dX12_readEvent_73 rfl ?_
            refine q_iconst dX12_readEvent_74 (by decide) ?_
            intro v2963 h2964
            refine q_iaddE dX12_readEvent_75 (by intros; omega) ?_
            intro v2965 h2966
            refine tr_aload_n dX12_readEvent_76 rfl ?_
            refine tr_getR dX12_readEvent_77 fl12_188 (kR15 hS2949.1 ta0) d2 ?_
            refine q_getI dX12_readEvent_80 fl12_192 (kR14 hS2949.1 ta1) ((hS2949.cell ta1 (by decide +kernel)).trans c30) ?_
            refine q_callVi hE (M' := mX12_readPart) (as := [_, _, _]) dX12_readEvent_83 lk12_249 inX12_readPart seX12_readPart myX12_readPart (by decide) ⟨by decide, by decide⟩ rfl (kR15 hS2949.1 ta0) (Nat.le_of_ble_eq_true rfl) rfl rfl (by decide) (by decide) (k_X12_readPart hS2949.1 ta0 (by decide)) ?_
            rintro v2971 cn' K' N' I2967 R2968 L2969 ⟨rfl, rfl, rfl, rfl, g2970, p2972, w2973, -⟩
            have hS2974 := hS2949.tr g2970 (by decide +kernel) (by decide +kernel)
            have c2975 : I2967 a1 2 = v37 := (g2970.cell ta1 (by decide +kernel)).trans c2950
            have b2976 : 1 ≤ v2971.toInt ∧ v2971.toInt ≤ 1 := by omega
            clear p2972
            have ov2977 := w2973.over (by rw [c2954]; omega)
            obtain ⟨v2978, c2979⟩ : ∃ v, I2967 a0 9 = v := ⟨_, rfl⟩
            have b2980 := iv15_9 hS2974.1 ta0 c2979
            obtain ⟨v2981, c2982⟩ : ∃ v, I2967 a0 13 = v := ⟨_, rfl⟩
            obtain ⟨v2983, c2984⟩ : ∃ v, I2967 a0 14 = v := ⟨_, rfl⟩
            (try rw [c2979] at ov2977)
            (try rw [c2982] at ov2977)
            (try rw [c2984] at ov2977)
            (try rw [c2954] at ov2977)
            (try rw [c2957] at ov2977)
            (try rw [c2959] at ov2977)
            refine tr_istore dX12_readEvent_86 (by decide) (by decide) ?_
            refine tr_aload_n dX12_readEvent_88 rfl ?_
            refine q_getI dX12_readEvent_89 fl12_99 (kR15 hS2974.1 ta0) c2979 ?_
            refine q_iconst dX12_readEvent_92 (by decide) ?_
            intro v2985 h2986
            refine q_icmp_ne 97 dX12_readEvent_93 (by decide) (fun h2987 => ?_) (fun h2987 => ?_)
            · skip
              exfalso; omega
            · skip
              have eF := hF.eq
              have eP := hP.eq
              obtain ⟨v2988, c2989⟩ : ∃ v, I2967 a0 10 = v := ⟨_, rfl⟩
              have b2990 := iv15_10 hS2974.1 ta0 c2989
              obtain ⟨v2991, c2992⟩ : ∃ v, I2967 a0 11 = v := ⟨_, rfl⟩
              obtain ⟨y2993, c2994⟩ : ∃ v, L2969 a0 15 = v := ⟨_, rfl⟩
              obtain ⟨v2995, c2996⟩ : ∃ v, I2967 a0 12 = v := ⟨_, rfl⟩
              obtain ⟨v2997, c2998⟩ : ∃ v, I2967 a0 8 = v := ⟨_, rfl⟩
              have b2999 := iv15_8 hS2974.1 ta0 c2998
              exact tr_vret hZ dX12_readEvent_96 rfl (by decide) (by decide) ⟨rfl, rfl, rfl, rfl, rfl, hS2974, (Or.inr (⟨(by first | done | omega), (by (try rw [c2979]); first | done | omega), (by (try rw [c2982]); first | done | omega), (by (try rw [c2984]); first | done | omega), trivial⟩)), trivial⟩
          · skip
            exfalso; omega
  · skip
    refine tr_aload_n dX12_readEvent_0 rfl ?_
    refine tr_aload_n dX12_readEvent_1 rfl ?_
    refine tr_getR dX12_readEvent_2 fl12_188 (kR15 hS0.1 ta0) d2 ?_
    refine q_getI dX12_readEvent_5 fl12_265 (kR14 hS0.1 ta1) c38 ?_
    refine q_bipush dX12_readEvent_8 (by decide +kernel) ?_
    intro v3000 h3001
    refine q_callVv hE (M' := mX12_begins) (as := [_, _]) dX12_readEvent_10 lk12_268 inX12_begins seX12_begins myX12_begins (by decide) ⟨by decide, by decide⟩ rfl (kR15 hS0.1 ta0) (Nat.le_of_ble_eq_true rfl) rfl rfl (by decide) (by decide) (fk_X12_begins hS0.1 (gB) (gs) (gQ) ta0 (TxA.kp hT hS0 ta0 rfl rfl rfl (by decide +kernel) (by decide +kernel)) (by (try rw [c4]); first | done | omega) (by (try rw [c4]); first | done | omega) (by (try rw [c9]); first | done | omega) (by (try rw [c13]); first | done | omega) (by (try rw [c16]); first | done | assumption) (by (try rw [c19]); first | done | assumption) (by (try rw [c22]); first | done | assumption) (by (try rw [c26]); first | done | omega) (fun q0 z0 => by obtain rfl := Option.some.inj ((d2).symm.trans z0); (try rw [c30]); first | done | omega) (by first | done | omega) ⟨_, d2⟩) ?_
    rintro cn' K' N' I3002 R3003 L3004 ⟨rfl, rfl, rfl, rfl, g3005, dj3008, -⟩
    have hM3009 : NmM I3002 R0 L0 a1 gQ := NmM.kpS hM0 g3005 hS0.1 ta1 (by decide +kernel) (by decide +kernel)
    have hS3010 := hS0.tr g3005 (by decide +kernel) (by decide +kernel)
    have c3011 : I3002 a1 2 = v37 := (g3005.cell ta1 (by decide +kernel)).trans c38
    rcases dj3008 with ⟨p3012, p3013, p3014, p3015, p3016, p3017, p3018, p3019, p3020, p3021, gl3022, -⟩ | ⟨p3023, p3024, p3025, p3026, -⟩ | ⟨p3027, p3028, p3029, p3030, p3031, -⟩
    · skip
      have hL3032 := hL0.tr gl3022 (by decide +kernel)
      have hM3033 : NmM I3002 R0 L3004 a1 gQ := NmM.kpL hM3009 gl3022 hS3010.1 ta1 (by decide +kernel)
      obtain ⟨v3034, c3035⟩ : ∃ v, I3002 a0 13 = v := ⟨_, rfl⟩
      rw [c3035] at p3014
      rw [c65] at p3014
      obtain ⟨v3036, c3037⟩ : ∃ v, I3002 a0 9 = v := ⟨_, rfl⟩
      have b3038 := iv15_9 hS3010.1 ta0 c3037
      rw [c3037] at p3015
      rw [c3037] at p3016
      obtain ⟨v3039, c3040⟩ : ∃ v, I3002 a0 10 = v := ⟨_, rfl⟩
      have b3041 := iv15_10 hS3010.1 ta0 c3040
      rw [c3040] at p3017
      obtain ⟨v3042, c3043⟩ : ∃ v, I3002 a0 11 = v := ⟨_, rfl⟩
      rw [c3043] at p3018
      obtain ⟨y3044, c3045⟩ : ∃ v, L3004 a0 15 = v := ⟨_, rfl⟩
      rw [c3045] at p3019
      obtain ⟨v3046, c3047⟩ : ∃ v, I3002 a0 12 = v := ⟨_, rfl⟩
      rw [c3047] at p3020
      obtain ⟨v3048, c3049⟩ : ∃ v, I3002 a0 8 = v := ⟨_, rfl⟩
      have b3050 := iv15_8 hS3010.1 ta0 c3049
      rw [c3049] at p3021
      have p3051 := p61
      unfold Q7M at p3051
      replace hF := hF.neg (by omega)
      replace hP := hP.neg (by omega)
      replace hF := hF.neg (by omega)
      replace hP := hP.neg (by omega)
      clear p3051
      obtain ⟨w3052, w3053, w3054, w3055, w3056, w3057, w3058, w3059, w3060, w3061, w3062, w3063⟩ := lnl_e (B := gB) (Q := gQ) (s := gs) (by omega) (by omega)
      replace hF := hF.to w3052 (evF_c4 (B := gB) (Q := gQ) (k := srt gB gs) (s := (tkN gB gs)) (by omega))
      replace hP := hP.to w3053 (evP_c4 (B := gB) (Q := gQ) (k := srt gB gs) (s := (tkN gB gs)) (by omega))
      refine tr_iload_n dX12_readEvent_13 rfl ?_
      refine q_iconst dX12_readEvent_14 (by decide) ?_
      intro v3064 h3065
      refine q_icmp_eq 23 dX12_readEvent_15 (by decide) (fun h3066 => ?_) (fun h3066 => ?_)
      · skip
        exfalso; omega
      · skip
        refine tr_iload_n dX12_readEvent_18 rfl ?_
        refine q_iconst dX12_readEvent_19 (by decide) ?_
        intro v3067 h3068
        refine q_icmp_ne 40 dX12_readEvent_20 (by decide) (fun h3069 => ?_) (fun h3069 => ?_)
        · skip
          refine q_bipush dX12_readEvent_40 (by decide +kernel) ?_
          intro v3070 h3071
          refine tr_istore_n dX12_readEvent_42 (by decide) (by decide) ?_
          refine tr_aload_n dX12_readEvent_43 rfl ?_
          refine q_iconst dX12_readEvent_44 (by decide) ?_
          intro v3072 h3073
          refine tr_aload_n dX12_readEvent_45 rfl ?_
          refine tr_getR dX12_readEvent_46 fl12_188 (kR15 hS3010.1 ta0) d2 ?_
          refine q_getI dX12_readEvent_49 fl12_192 (kR14 hS3010.1 ta1) ((hS3010.cell ta1 (by decide +kernel)).trans c30) ?_
          refine q_iconst dX12_readEvent_52 (by decide) ?_
          intro v3074 h3075
          refine q_isubE dX12_readEvent_53 (by intros; omega) ?_
          intro v3076 h3077
          refine q_callVi hE (M' := mX12_readWhole) (as := [_, _]) dX12_readEvent_54 lk12_161 inX12_readWhole seX12_readWhole myX12_readWhole (by decide) ⟨by decide, by decide⟩ rfl (kR15 hS3010.1 ta0) (Nat.le_of_ble_eq_true rfl) rfl rfl (by decide) (by decide) (fk_X12_readWhole hS3010.1 (gB) ((tkN gB gs)) ta0 (TxA.kp hT hS3010 ta0 rfl rfl rfl (by decide +kernel) (by decide +kernel)) (by (try rw [c3037]); first | done | omega) (by (try rw [c3037]); first | done | omega) (by (try rw [c3040]); first | done | omega) (by (try rw [c3043]); first | done | omega) (by (try rw [c3045]); first | done | assumption) (by (try rw [c3047]); first | done | assumption) (by (try rw [c3049]); first | done | assumption) (by (try rw [((hS3010.cell ta0 (by decide +kernel)).trans c26)]); first | done | omega)) ?_
          rintro v3083 cn' K' N' I3078 R3079 L3080 ⟨rfl, rfl, rfl, rfl, g3081, dj3084, -⟩
          have hM3085 : NmM I3078 R0 L3004 a1 gQ := NmM.kpS hM3033 g3081 hS3010.1 ta1 (by decide +kernel) (by decide +kernel)
          have hS3086 := hS3010.tr g3081 (by decide +kernel) (by decide +kernel)
          have c3087 : I3078 a1 2 = v37 := (g3081.cell ta1 (by decide +kernel)).trans c3011
          rcases dj3084 with ⟨p3088, p3089, p3090, p3091, p3092, p3093, p3094, p3095, p3096, p3097, p3098, p3099, gl3100, -⟩ | ⟨p3101, p3102, p3103, p3104, p3105, -⟩ | ⟨p3106, p3107, p3108, p3109, p3110, p3111, -⟩
          · skip
            have hL3112 := hL3032.tr gl3100 (by decide +kernel)
            have hM3113 : NmM I3078 R0 L3080 a1 gQ := NmM.kpL hM3085 gl3100 hS3086.1 ta1 (by decide +kernel)
            obtain ⟨v3114, c3115⟩ : ∃ v, I3078 a0 13 = v := ⟨_, rfl⟩
            rw [c3115] at p3092
            rw [c3035] at p3092
            obtain ⟨v3116, c3117⟩ : ∃ v, I3078 a0 9 = v := ⟨_, rfl⟩
            have b3118 := iv15_9 hS3086.1 ta0 c3117
            rw [c3117] at p3093
            rw [c3117] at p3094
            obtain ⟨v3119, c3120⟩ : ∃ v, I3078 a0 10 = v := ⟨_, rfl⟩
            have b3121 := iv15_10 hS3086.1 ta0 c3120
            rw [c3120] at p3095
            obtain ⟨v3122, c3123⟩ : ∃ v, I3078 a0 11 = v := ⟨_, rfl⟩
            rw [c3123] at p3096
            obtain ⟨y3124, c3125⟩ : ∃ v, L3080 a0 15 = v := ⟨_, rfl⟩
            rw [c3125] at p3097
            obtain ⟨v3126, c3127⟩ : ∃ v, I3078 a0 12 = v := ⟨_, rfl⟩
            rw [c3127] at p3098
            obtain ⟨v3128, c3129⟩ : ∃ v, I3078 a0 8 = v := ⟨_, rfl⟩
            have b3130 := iv15_8 hS3086.1 ta0 c3129
            rw [c3129] at p3099
            replace hF := hF.neg (by omega)
            replace hP := hP.neg (by omega)
            replace hF := hF.neg (by omega)
            replace hP := hP.neg (by omega)
            refine tr_istore_n dX12_readEvent_57 (by decide) (by decide) ?_
            refine tr_iload_n dX12_readEvent_58 rfl ?_
            refine q_iconst dX12_readEvent_59 (by decide) ?_
            intro v3131 h3132
            refine q_icmp_ne 69 dX12_readEvent_60 (by decide) (fun h3133 => ?_) (fun h3133 => ?_)
            · skip
              exfalso; omega
            · skip
              refine tr_iload_n dX12_readEvent_63 rfl ?_
              refine q_iconst dX12_readEvent_64 (by decide) ?_
              intro v3134 h3135
              refine q_iaddE dX12_readEvent_65 (by intros; omega) ?_
              intro v3136 h3137
              refine tr_goto 86 dX12_readEvent_66 (by decide) ?_
              refine tr_istore dX12_readEvent_86 (by decide) (by decide) ?_
              refine tr_aload_n dX12_readEvent_88 rfl ?_
              refine q_getI dX12_readEvent_89 fl12_99 (kR15 hS3086.1 ta0) c3117 ?_
              refine q_iconst dX12_readEvent_92 (by decide) ?_
              intro v3138 h3139
              refine q_icmp_ne 97 dX12_readEvent_93 (by decide) (fun h3140 => ?_) (fun h3140 => ?_)
              · skip
                refine tr_aload_n dX12_readEvent_97 rfl ?_
                refine tr_getR dX12_readEvent_98 fl12_188 (kR15 hS3086.1 ta0) d2 ?_
                refine q_getI dX12_readEvent_101 fl12_265 (kR14 hS3086.1 ta1) c3087 ?_
                refine tr_istore dX12_readEvent_104 (by decide) (by decide) ?_
                refine tr_aload_n dX12_readEvent_106 rfl ?_
                refine tr_getR dX12_readEvent_107 fl12_188 (kR15 hS3086.1 ta0) d2 ?_
                obtain ⟨a3141, d3142, ta3141⟩ := rf14_11 hW0 ta1
                refine tr_getR dX12_readEvent_110 fl12_274 (kR14 hS3086.1 ta1) d3142 ?_
                refine tr_iload dX12_readEvent_113 rfl ?_
                refine tr_iload_n dX12_readEvent_115 rfl ?_
                refine q_iastX dX12_readEvent_116 (kR54 hS3086.1 ta3141) (ti_in (nR54 hS3086.1 ta3141) (by omega) (by omega)) hS3086 ta3141 (by rfl) (hS3086.1.putK (m := a1) ta1 d3142 (by rw [c3087]; exact Int.le_of_eq (ti_nat (by omega)).symm)) ?_
                intro I3147 hS3148 e3149 f3150
                have c3151 : I3147 a1 2 = v37 := (f3150 _ _ (fun q => by have z := ta1; rw [q.1, ta3141] at z; exact absurd z (by decide))).trans c3087
                have c3152 : I3147 a0 13 = v3114 := (f3150 _ _ (fun q => by have z := ta0; rw [q.1, ta3141] at z; exact absurd z (by decide))).trans c3115
                have c3153 : I3147 a0 9 = v3116 := (f3150 _ _ (fun q => by have z := ta0; rw [q.1, ta3141] at z; exact absurd z (by decide))).trans c3117
                have c3154 : I3147 a0 10 = v3119 := (f3150 _ _ (fun q => by have z := ta0; rw [q.1, ta3141] at z; exact absurd z (by decide))).trans c3120
                have c3155 : I3147 a0 11 = v3122 := (f3150 _ _ (fun q => by have z := ta0; rw [q.1, ta3141] at z; exact absurd z (by decide))).trans c3123
                have c3156 : I3147 a0 12 = v3126 := (f3150 _ _ (fun q => by have z := ta0; rw [q.1, ta3141] at z; exact absurd z (by decide))).trans c3127
                have c3157 : I3147 a0 8 = v3128 := (f3150 _ _ (fun q => by have z := ta0; rw [q.1, ta3141] at z; exact absurd z (by decide))).trans c3129
                have hM3158 : NmM I3147 R0 L3080 a1 gQ := NmM.kp1 hM3113 f3150 ta3141 rfl rfl hS3086.1 ta1
                refine tr_aload_n dX12_readEvent_117 rfl ?_
                refine tr_getR dX12_readEvent_118 fl12_188 (kR15 hS3148.1 ta0) d2 ?_
                obtain ⟨a3159, d3160, ta3159⟩ := rf14_12 hW0 ta1
                refine tr_getR dX12_readEvent_121 fl12_277 (kR14 hS3148.1 ta1) d3160 ?_
                refine tr_iload dX12_readEvent_124 rfl ?_
                refine tr_iload_n dX12_readEvent_126 rfl ?_
                refine q_iastX dX12_readEvent_127 (kR55 hS3148.1 ta3159) (ti_in (nR55 hS3148.1 ta3159) (by omega) (by omega)) hS3148 ta3159 (by rfl) (hS3148.1.putH (m := a1) ta1 d3160 (by rw [c3151]; exact Int.le_of_eq (ti_nat (by omega)).symm) (by omega)) ?_
                intro I3165 hS3166 e3167 f3168
                have c3169 : I3165 a1 2 = v37 := (f3168 _ _ (fun q => by have z := ta1; rw [q.1, ta3159] at z; exact absurd z (by decide))).trans c3151
                have c3170 : I3165 a0 13 = v3114 := (f3168 _ _ (fun q => by have z := ta0; rw [q.1, ta3159] at z; exact absurd z (by decide))).trans c3152
                have c3171 : I3165 a0 9 = v3116 := (f3168 _ _ (fun q => by have z := ta0; rw [q.1, ta3159] at z; exact absurd z (by decide))).trans c3153
                have c3172 : I3165 a0 10 = v3119 := (f3168 _ _ (fun q => by have z := ta0; rw [q.1, ta3159] at z; exact absurd z (by decide))).trans c3154
                have c3173 : I3165 a0 11 = v3122 := (f3168 _ _ (fun q => by have z := ta0; rw [q.1, ta3159] at z; exact absurd z (by decide))).trans c3155
                have c3174 : I3165 a0 12 = v3126 := (f3168 _ _ (fun q => by have z := ta0; rw [q.1, ta3159] at z; exact absurd z (by decide))).trans c3156
                have c3175 : I3165 a0 8 = v3128 := (f3168 _ _ (fun q => by have z := ta0; rw [q.1, ta3159] at z; exact absurd z (by decide))).trans c3157
                have c3176 : I3165 a3141 v37.toNatClampNeg = x1 := (f3168 _ _ (fun q => by have z := ta3141; rw [q.1, ta3159] at z; exact absurd z (by decide))).trans e3149
                have hM3177 : NmM I3165 R0 L3080 a1 gQ := NmM.kp1 hM3158 f3168 ta3159 rfl rfl hS3148.1 ta1
                refine tr_aload_n dX12_readEvent_128 rfl ?_
                refine tr_getR dX12_readEvent_129 fl12_188 (kR15 hS3166.1 ta0) d2 ?_
                obtain ⟨a3178, d3179, ta3178⟩ := rf14_13 hW0 ta1
                refine tr_getR dX12_readEvent_132 fl12_280 (kR14 hS3166.1 ta1) d3179 ?_
                refine tr_iload dX12_readEvent_135 rfl ?_
                refine tr_iload_n dX12_readEvent_137 rfl ?_
                refine q_iast dX12_readEvent_138 (kR56 hS3166.1 ta3178) (ti_in (nR56 hS3166.1 ta3178) (by omega) (by omega)) hS3166 ta3178 (by show (0 : Int) ≤ v3083.toInt ∧ v3083.toInt ≤ (240 : Int); omega) rfl (by rfl) ?_
                intro I3180 hS3181 e3183 f3182
                have c3184 : I3180 a1 2 = v37 := (f3182 _ _ (fun q => by have z := ta1; rw [q.1, ta3178] at z; exact absurd z (by decide))).trans c3169
                have c3185 : I3180 a0 13 = v3114 := (f3182 _ _ (fun q => by have z := ta0; rw [q.1, ta3178] at z; exact absurd z (by decide))).trans c3170
                have c3186 : I3180 a0 9 = v3116 := (f3182 _ _ (fun q => by have z := ta0; rw [q.1, ta3178] at z; exact absurd z (by decide))).trans c3171
                have c3187 : I3180 a0 10 = v3119 := (f3182 _ _ (fun q => by have z := ta0; rw [q.1, ta3178] at z; exact absurd z (by decide))).trans c3172
                have c3188 : I3180 a0 11 = v3122 := (f3182 _ _ (fun q => by have z := ta0; rw [q.1, ta3178] at z; exact absurd z (by decide))).trans c3173
                have c3189 : I3180 a0 12 = v3126 := (f3182 _ _ (fun q => by have z := ta0; rw [q.1, ta3178] at z; exact absurd z (by decide))).trans c3174
                have c3190 : I3180 a0 8 = v3128 := (f3182 _ _ (fun q => by have z := ta0; rw [q.1, ta3178] at z; exact absurd z (by decide))).trans c3175
                have c3191 : I3180 a3141 v37.toNatClampNeg = x1 := (f3182 _ _ (fun q => by have z := ta3141; rw [q.1, ta3178] at z; exact absurd z (by decide))).trans c3176
                have c3192 : I3180 a3159 v37.toNatClampNeg = v3070 := (f3182 _ _ (fun q => by have z := ta3159; rw [q.1, ta3178] at z; exact absurd z (by decide))).trans e3167
                have hM3193 : NmM I3180 R0 L3080 a1 gQ := NmM.kp1 hM3177 f3182 ta3178 rfl rfl hS3166.1 ta1
                refine tr_aload_n dX12_readEvent_139 rfl ?_
                refine tr_getR dX12_readEvent_140 fl12_188 (kR15 hS3181.1 ta0) d2 ?_
                obtain ⟨a3194, d3195, ta3194⟩ := rf14_14 hW0 ta1
                refine tr_getR dX12_readEvent_143 fl12_283 (kR14 hS3181.1 ta1) d3195 ?_
                refine tr_iload dX12_readEvent_146 rfl ?_
                refine tr_iload dX12_readEvent_148 rfl ?_
                refine q_iast dX12_readEvent_150 (kR57 hS3181.1 ta3194) (ti_in (nR57 hS3181.1 ta3194) (by omega) (by omega)) hS3181 ta3194 (by show (0 : Int) ≤ v3136.toInt ∧ v3136.toInt ≤ (240 : Int); omega) rfl (by rfl) ?_
                intro I3196 hS3197 e3199 f3198
                have c3200 : I3196 a1 2 = v37 := (f3198 _ _ (fun q => by have z := ta1; rw [q.1, ta3194] at z; exact absurd z (by decide))).trans c3184
                have c3201 : I3196 a0 13 = v3114 := (f3198 _ _ (fun q => by have z := ta0; rw [q.1, ta3194] at z; exact absurd z (by decide))).trans c3185
                have c3202 : I3196 a0 9 = v3116 := (f3198 _ _ (fun q => by have z := ta0; rw [q.1, ta3194] at z; exact absurd z (by decide))).trans c3186
                have c3203 : I3196 a0 10 = v3119 := (f3198 _ _ (fun q => by have z := ta0; rw [q.1, ta3194] at z; exact absurd z (by decide))).trans c3187
                have c3204 : I3196 a0 11 = v3122 := (f3198 _ _ (fun q => by have z := ta0; rw [q.1, ta3194] at z; exact absurd z (by decide))).trans c3188
                have c3205 : I3196 a0 12 = v3126 := (f3198 _ _ (fun q => by have z := ta0; rw [q.1, ta3194] at z; exact absurd z (by decide))).trans c3189
                have c3206 : I3196 a0 8 = v3128 := (f3198 _ _ (fun q => by have z := ta0; rw [q.1, ta3194] at z; exact absurd z (by decide))).trans c3190
                have c3207 : I3196 a3141 v37.toNatClampNeg = x1 := (f3198 _ _ (fun q => by have z := ta3141; rw [q.1, ta3194] at z; exact absurd z (by decide))).trans c3191
                have c3208 : I3196 a3159 v37.toNatClampNeg = v3070 := (f3198 _ _ (fun q => by have z := ta3159; rw [q.1, ta3194] at z; exact absurd z (by decide))).trans c3192
                have hM3209 : NmM I3196 R0 L3080 a1 gQ := NmM.kp1 hM3193 f3198 ta3194 rfl rfl hS3181.1 ta1
                refine tr_aload_n dX12_readEvent_151 rfl ?_
                refine tr_getR dX12_readEvent_152 fl12_188 (kR15 hS3197.1 ta0) d2 ?_
                refine tr_dup dX12_readEvent_155 rfl ?_
                refine q_getI dX12_readEvent_156 fl12_265 (kR14 hS3197.1 ta1) c3200 ?_
                refine q_iconst dX12_readEvent_159 (by decide) ?_
                intro v3210 h3211
                refine q_iaddE dX12_readEvent_160 (by intros; omega) ?_
                intro v3212 h3213
                refine q_putX dX12_readEvent_161 fl12_265 (kR14 hS3197.1 ta1) (Or.inl rfl) hS3197 ta1 (by decide +kernel) (hS3197.1.putE (i := v37.toNatClampNeg) ta1 d3142 d3160 (by rw [c3200]; exact (ti_nat (by omega)).symm) (by rw [c3200]; omega) (by omega) (by rw [c3207, c3208]; omega)) ?_
                intro I3214 hS3215 e3216 f3217
                have c3218 : I3214 a0 13 = v3114 := (f3217 _ _ (fun q => absurd q.2 (by decide))).trans c3201
                have c3219 : I3214 a0 9 = v3116 := (f3217 _ _ (fun q => absurd q.2 (by decide))).trans c3202
                have c3220 : I3214 a0 10 = v3119 := (f3217 _ _ (fun q => absurd q.2 (by decide))).trans c3203
                have c3221 : I3214 a0 11 = v3122 := (f3217 _ _ (fun q => absurd q.2 (by decide))).trans c3204
                have c3222 : I3214 a0 12 = v3126 := (f3217 _ _ (fun q => absurd q.2 (by decide))).trans c3205
                have c3223 : I3214 a0 8 = v3128 := (f3217 _ _ (fun q => absurd q.2 (by decide))).trans c3206
                have c3224 : I3214 a3141 v37.toNatClampNeg = x1 := (f3217 _ _ (fun q => by have z := ta3141; rw [q.1, ta1] at z; exact absurd z (by decide))).trans c3207
                have c3225 : I3214 a3159 v37.toNatClampNeg = v3070 := (f3217 _ _ (fun q => by have z := ta3159; rw [q.1, ta1] at z; exact absurd z (by decide))).trans c3208
                have hM3226 : NmM I3214 R0 L3080 a1 gQ := NmM.kp1 hM3209 f3217 ta1 rfl rfl hS3197.1 ta1
                have eF := hF.eq
                have eP := hP.eq
                have es3227 := evS_c4 (B := gB) (Q := gQ) (k := srt gB gs) (s := (tkN gB gs)) (by omega)
                obtain ⟨v3228, c3229⟩ : ∃ v, I3214 a0 14 = v := ⟨_, rfl⟩
                exact tr_vret hZ dX12_readEvent_164 rfl (by decide) (by decide) ⟨rfl, rfl, rfl, rfl, rfl, hS3215, (Or.inl ⟨(by (try rw [w3054]); (try rw [es3227]); first | done | omega), (fun q0 z0 => by obtain rfl := Option.some.inj ((d2).symm.trans z0); (try rw [w3054]); (try rw [es3227]); (try rw [((hS3215.cell ta1 (by decide +kernel)).trans c30)]); first | done | omega), (fun q0 z0 => by obtain rfl := Option.some.inj ((d2).symm.trans z0); (try rw [w3054]); (try rw [es3227]); (try rw [((hS3215.cell ta1 (by decide +kernel)).trans c34)]); first | done | omega), (fun q0 z0 => by obtain rfl := Option.some.inj ((d2).symm.trans z0); (try rw [w3054]); (try rw [es3227]); (try rw [e3216]); first | done | omega), (fun q0 z0 => by obtain rfl := Option.some.inj ((d2).symm.trans z0); (try rw [w3054]); (try rw [es3227]); (try rw [((hS3215.cell ta1 (by decide +kernel)).trans c42)]); first | done | omega), (fun q0 z0 => by obtain rfl := Option.some.inj ((d2).symm.trans z0); (try rw [w3054]); (try rw [es3227]); (try rw [((hS3215.cell ta1 (by decide +kernel)).trans c46)]); first | done | omega), (fun q0 z0 => by obtain rfl := Option.some.inj ((d2).symm.trans z0); (try rw [w3054]); (try rw [es3227]); (try rw [((hS3215.cell ta1 (by decide +kernel)).trans c50)]); first | done | omega), (fun q0 z0 => by obtain rfl := Option.some.inj ((d2).symm.trans z0); (try rw [w3054]); (try rw [es3227]); (try rw [((hS3215.cell ta1 (by decide +kernel)).trans c54)]); first | done | omega), (fun q0 z0 => by obtain rfl := Option.some.inj ((d2).symm.trans z0); (try rw [w3054]); (try rw [es3227]); (try rw [((hS3215.cell ta1 (by decide +kernel)).trans c58)]); first | done | omega), (by (try rw [w3054]); (try rw [es3227]); (try rw [c3218]); (try rw [c65]); first | done | omega), (by (try rw [w3054]); (try rw [es3227]); (try rw [c3219]); first | done | omega), (by (try rw [w3054]); (try rw [es3227]); (try rw [c3219]); first | done | omega), (by (try rw [w3054]); (try rw [es3227]); (try rw [c3220]); first | done | omega), (by (try rw [w3054]); (try rw [es3227]); (try rw [c3221]); first | done | omega), (by (try rw [w3054]); (try rw [es3227]); (try rw [c3125]); first | done | assumption), (by (try rw [w3054]); (try rw [es3227]); (try rw [c3222]); first | done | assumption), (by (try rw [w3054]); (try rw [es3227]); (try rw [c3223]); first | done | assumption), hL3112, (fun b hb => (Option.some.inj (d2.symm.trans hb)) ▸ NmM.ln (NmM.bd (k := srt gB gs) hM3226 (by omega) (by omega)) rfl), trivial⟩), trivial⟩
              · skip
                exfalso; omega
          · skip
            obtain ⟨v3230, c3231⟩ : ∃ v, I3078 a0 9 = v := ⟨_, rfl⟩
            have b3232 := iv15_9 hS3086.1 ta0 c3231
            rw [c3231] at p3103
            obtain ⟨v3233, c3234⟩ : ∃ v, I3078 a0 13 = v := ⟨_, rfl⟩
            rw [c3234] at p3104
            obtain ⟨v3235, c3236⟩ : ∃ v, I3078 a0 14 = v := ⟨_, rfl⟩
            rw [c3236] at p3105
            replace hF := hF.pos (by omega)
            replace hP := hP.pos (by omega)
            refine tr_istore_n dX12_readEvent_57 (by decide) (by decide) ?_
            refine tr_iload_n dX12_readEvent_58 rfl ?_
            refine q_iconst dX12_readEvent_59 (by decide) ?_
            intro v3237 h3238
            refine q_icmp_ne 69 dX12_readEvent_60 (by decide) (fun h3239 => ?_) (fun h3239 => ?_)
            · skip
              exfalso; omega
            · skip
              refine tr_iload_n dX12_readEvent_63 rfl ?_
              refine q_iconst dX12_readEvent_64 (by decide) ?_
              intro v3240 h3241
              refine q_iaddE dX12_readEvent_65 (by intros; omega) ?_
              intro v3242 h3243
              refine tr_goto 86 dX12_readEvent_66 (by decide) ?_
              refine tr_istore dX12_readEvent_86 (by decide) (by decide) ?_
              refine tr_aload_n dX12_readEvent_88 rfl ?_
              refine q_getI dX12_readEvent_89 fl12_99 (kR15 hS3086.1 ta0) c3231 ?_
              refine q_iconst dX12_readEvent_92 (by decide) ?_
              intro v3244 h3245
              refine q_icmp_ne 97 dX12_readEvent_93 (by decide) (fun h3246 => ?_) (fun h3246 => ?_)
              · skip
                exfalso; omega
              · skip
                have eF := hF.eq
                have eP := hP.eq
                obtain ⟨v3247, c3248⟩ : ∃ v, I3078 a0 10 = v := ⟨_, rfl⟩
                have b3249 := iv15_10 hS3086.1 ta0 c3248
                obtain ⟨v3250, c3251⟩ : ∃ v, I3078 a0 11 = v := ⟨_, rfl⟩
                obtain ⟨y3252, c3253⟩ : ∃ v, L3080 a0 15 = v := ⟨_, rfl⟩
                obtain ⟨v3254, c3255⟩ : ∃ v, I3078 a0 12 = v := ⟨_, rfl⟩
                obtain ⟨v3256, c3257⟩ : ∃ v, I3078 a0 8 = v := ⟨_, rfl⟩
                have b3258 := iv15_8 hS3086.1 ta0 c3257
                exact tr_vret hZ dX12_readEvent_96 rfl (by decide) (by decide) ⟨rfl, rfl, rfl, rfl, rfl, hS3086, (Or.inr (⟨(by (try rw [w3054]); first | done | omega), (by (try rw [w3054]); (try rw [c3231]); first | done | omega), (by (try rw [w3054]); (try rw [c3234]); first | done | omega), (by (try rw [w3054]); (try rw [c3236]); first | done | omega), trivial⟩)), trivial⟩
          · skip
            obtain ⟨v3259, c3260⟩ : ∃ v, I3078 a0 9 = v := ⟨_, rfl⟩
            have b3261 := iv15_9 hS3086.1 ta0 c3260
            rw [c3260] at p3109
            obtain ⟨v3262, c3263⟩ : ∃ v, I3078 a0 13 = v := ⟨_, rfl⟩
            rw [c3263] at p3110
            obtain ⟨v3264, c3265⟩ : ∃ v, I3078 a0 14 = v := ⟨_, rfl⟩
            rw [c3265] at p3111
            replace hF := hF.neg (by omega)
            replace hP := hP.neg (by omega)
            replace hF := hF.pos (by omega)
            replace hP := hP.pos (by omega)
            refine tr_istore_n dX12_readEvent_57 (by decide) (by decide) ?_
            refine tr_iload_n dX12_readEvent_58 rfl ?_
            refine q_iconst dX12_readEvent_59 (by decide) ?_
            intro v3266 h3267
            refine q_icmp_ne 69 dX12_readEvent_60 (by decide) (fun h3268 => ?_) (fun h3268 => ?_)
            · skip
              exfalso; omega
            · skip
              refine tr_iload_n dX12_readEvent_63 rfl ?_
              refine q_iconst dX12_readEvent_64 (by decide) ?_
              intro v3269 h3270
              refine q_iaddE dX12_readEvent_65 (by intros; omega) ?_
              intro v3271 h3272
              refine tr_goto 86 dX12_readEvent_66 (by decide) ?_
              refine tr_istore dX12_readEvent_86 (by decide) (by decide) ?_
              refine tr_aload_n dX12_readEvent_88 rfl ?_
              refine q_getI dX12_readEvent_89 fl12_99 (kR15 hS3086.1 ta0) c3260 ?_
              refine q_iconst dX12_readEvent_92 (by decide) ?_
              intro v3273 h3274
              refine q_icmp_ne 97 dX12_readEvent_93 (by decide) (fun h3275 => ?_) (fun h3275 => ?_)
              · skip
                exfalso; omega
              · skip
                have eF := hF.eq
                have eP := hP.eq
                obtain ⟨v3276, c3277⟩ : ∃ v, I3078 a0 10 = v := ⟨_, rfl⟩
                have b3278 := iv15_10 hS3086.1 ta0 c3277
                obtain ⟨v3279, c3280⟩ : ∃ v, I3078 a0 11 = v := ⟨_, rfl⟩
                obtain ⟨y3281, c3282⟩ : ∃ v, L3080 a0 15 = v := ⟨_, rfl⟩
                obtain ⟨v3283, c3284⟩ : ∃ v, I3078 a0 12 = v := ⟨_, rfl⟩
                obtain ⟨v3285, c3286⟩ : ∃ v, I3078 a0 8 = v := ⟨_, rfl⟩
                have b3287 := iv15_8 hS3086.1 ta0 c3286
                exact tr_vret hZ dX12_readEvent_96 rfl (by decide) (by decide) ⟨rfl, rfl, rfl, rfl, rfl, hS3086, (Or.inr (⟨(by (try rw [w3054]); first | done | omega), (by (try rw [w3054]); (try rw [c3260]); first | done | omega), (by (try rw [w3054]); (try rw [c3263]); first | done | omega), (by (try rw [w3054]); (try rw [c3265]); first | done | omega), trivial⟩)), trivial⟩
        · skip
          exfalso; omega
    · skip
      obtain ⟨v3288, c3289⟩ : ∃ v, I3002 a0 9 = v := ⟨_, rfl⟩
      have b3290 := iv15_9 hS3010.1 ta0 c3289
      rw [c3289] at p3024
      obtain ⟨v3291, c3292⟩ : ∃ v, I3002 a0 13 = v := ⟨_, rfl⟩
      rw [c3292] at p3025
      obtain ⟨v3293, c3294⟩ : ∃ v, I3002 a0 14 = v := ⟨_, rfl⟩
      rw [c3294] at p3026
      have p3295 := p61
      unfold Q7M at p3295
      replace hF := hF.pos (by omega)
      replace hP := hP.pos (by omega)
      clear p3295
      refine tr_iload_n dX12_readEvent_13 rfl ?_
      refine q_iconst dX12_readEvent_14 (by decide) ?_
      intro v3296 h3297
      refine q_icmp_eq 23 dX12_readEvent_15 (by decide) (fun h3298 => ?_) (fun h3298 => ?_)
      · skip
        exfalso; omega
      · skip
        refine tr_iload_n dX12_readEvent_18 rfl ?_
        refine q_iconst dX12_readEvent_19 (by decide) ?_
        intro v3299 h3300
        refine q_icmp_ne 40 dX12_readEvent_20 (by decide) (fun h3301 => ?_) (fun h3301 => ?_)
        · skip
          refine q_bipush dX12_readEvent_40 (by decide +kernel) ?_
          intro v3302 h3303
          refine tr_istore_n dX12_readEvent_42 (by decide) (by decide) ?_
          refine tr_aload_n dX12_readEvent_43 rfl ?_
          refine q_iconst dX12_readEvent_44 (by decide) ?_
          intro v3304 h3305
          refine tr_aload_n dX12_readEvent_45 rfl ?_
          refine tr_getR dX12_readEvent_46 fl12_188 (kR15 hS3010.1 ta0) d2 ?_
          refine q_getI dX12_readEvent_49 fl12_192 (kR14 hS3010.1 ta1) ((hS3010.cell ta1 (by decide +kernel)).trans c30) ?_
          refine q_iconst dX12_readEvent_52 (by decide) ?_
          intro v3306 h3307
          refine q_isubE dX12_readEvent_53 (by intros; omega) ?_
          intro v3308 h3309
          refine q_callVi hE (M' := mX12_readWhole) (as := [_, _]) dX12_readEvent_54 lk12_161 inX12_readWhole seX12_readWhole myX12_readWhole (by decide) ⟨by decide, by decide⟩ rfl (kR15 hS3010.1 ta0) (Nat.le_of_ble_eq_true rfl) rfl rfl (by decide) (by decide) (k_X12_readWhole hS3010.1 ta0) ?_
          rintro v3314 cn' K' N' I3310 R3311 L3312 ⟨rfl, rfl, rfl, rfl, g3313, p3315, w3316, -⟩
          have hS3317 := hS3010.tr g3313 (by decide +kernel) (by decide +kernel)
          have c3318 : I3310 a1 2 = v37 := (g3313.cell ta1 (by decide +kernel)).trans c3011
          have b3319 : 0 ≤ v3314.toInt ∧ v3314.toInt ≤ 239 := by omega
          clear p3315
          have ov3320 := w3316.over (by rw [c3289]; omega)
          obtain ⟨v3321, c3322⟩ : ∃ v, I3310 a0 9 = v := ⟨_, rfl⟩
          have b3323 := iv15_9 hS3317.1 ta0 c3322
          obtain ⟨v3324, c3325⟩ : ∃ v, I3310 a0 13 = v := ⟨_, rfl⟩
          obtain ⟨v3326, c3327⟩ : ∃ v, I3310 a0 14 = v := ⟨_, rfl⟩
          (try rw [c3322] at ov3320)
          (try rw [c3325] at ov3320)
          (try rw [c3327] at ov3320)
          (try rw [c3289] at ov3320)
          (try rw [c3292] at ov3320)
          (try rw [c3294] at ov3320)
          refine tr_istore_n dX12_readEvent_57 (by decide) (by decide) ?_
          refine tr_iload_n dX12_readEvent_58 rfl ?_
          refine q_iconst dX12_readEvent_59 (by decide) ?_
          intro v3328 h3329
          refine q_icmp_ne 69 dX12_readEvent_60 (by decide) (fun h3330 => ?_) (fun h3330 => ?_)
          · skip
            exfalso; omega
          · skip
            refine tr_iload_n dX12_readEvent_63 rfl ?_
            refine q_iconst dX12_readEvent_64 (by decide) ?_
            intro v3331 h3332
            refine q_iaddE dX12_readEvent_65 (by intros; omega) ?_
            intro v3333 h3334
            refine tr_goto 86 dX12_readEvent_66 (by decide) ?_
            refine tr_istore dX12_readEvent_86 (by decide) (by decide) ?_
            refine tr_aload_n dX12_readEvent_88 rfl ?_
            refine q_getI dX12_readEvent_89 fl12_99 (kR15 hS3317.1 ta0) c3322 ?_
            refine q_iconst dX12_readEvent_92 (by decide) ?_
            intro v3335 h3336
            refine q_icmp_ne 97 dX12_readEvent_93 (by decide) (fun h3337 => ?_) (fun h3337 => ?_)
            · skip
              exfalso; omega
            · skip
              have eF := hF.eq
              have eP := hP.eq
              obtain ⟨v3338, c3339⟩ : ∃ v, I3310 a0 10 = v := ⟨_, rfl⟩
              have b3340 := iv15_10 hS3317.1 ta0 c3339
              obtain ⟨v3341, c3342⟩ : ∃ v, I3310 a0 11 = v := ⟨_, rfl⟩
              obtain ⟨y3343, c3344⟩ : ∃ v, L3312 a0 15 = v := ⟨_, rfl⟩
              obtain ⟨v3345, c3346⟩ : ∃ v, I3310 a0 12 = v := ⟨_, rfl⟩
              obtain ⟨v3347, c3348⟩ : ∃ v, I3310 a0 8 = v := ⟨_, rfl⟩
              have b3349 := iv15_8 hS3317.1 ta0 c3348
              exact tr_vret hZ dX12_readEvent_96 rfl (by decide) (by decide) ⟨rfl, rfl, rfl, rfl, rfl, hS3317, (Or.inr (⟨(by first | done | omega), (by (try rw [c3322]); first | done | omega), (by (try rw [c3325]); first | done | omega), (by (try rw [c3327]); first | done | omega), trivial⟩)), trivial⟩
        · skip
          exfalso; omega
    · skip
      obtain ⟨v3350, c3351⟩ : ∃ v, I3002 a0 9 = v := ⟨_, rfl⟩
      have b3352 := iv15_9 hS3010.1 ta0 c3351
      rw [c3351] at p3029
      obtain ⟨v3353, c3354⟩ : ∃ v, I3002 a0 13 = v := ⟨_, rfl⟩
      rw [c3354] at p3030
      obtain ⟨v3355, c3356⟩ : ∃ v, I3002 a0 14 = v := ⟨_, rfl⟩
      rw [c3356] at p3031
      have p3357 := p61
      unfold Q7M at p3357
      replace hF := hF.neg (by omega)
      replace hP := hP.neg (by omega)
      replace hF := hF.pos (by omega)
      replace hP := hP.pos (by omega)
      clear p3357
      refine tr_iload_n dX12_readEvent_13 rfl ?_
      refine q_iconst dX12_readEvent_14 (by decide) ?_
      intro v3358 h3359
      refine q_icmp_eq 23 dX12_readEvent_15 (by decide) (fun h3360 => ?_) (fun h3360 => ?_)
      · skip
        exfalso; omega
      · skip
        refine tr_iload_n dX12_readEvent_18 rfl ?_
        refine q_iconst dX12_readEvent_19 (by decide) ?_
        intro v3361 h3362
        refine q_icmp_ne 40 dX12_readEvent_20 (by decide) (fun h3363 => ?_) (fun h3363 => ?_)
        · skip
          refine q_bipush dX12_readEvent_40 (by decide +kernel) ?_
          intro v3364 h3365
          refine tr_istore_n dX12_readEvent_42 (by decide) (by decide) ?_
          refine tr_aload_n dX12_readEvent_43 rfl ?_
          refine q_iconst dX12_readEvent_44 (by decide) ?_
          intro v3366 h3367
          refine tr_aload_n dX12_readEvent_45 rfl ?_
          refine tr_getR dX12_readEvent_46 fl12_188 (kR15 hS3010.1 ta0) d2 ?_
          refine q_getI dX12_readEvent_49 fl12_192 (kR14 hS3010.1 ta1) ((hS3010.cell ta1 (by decide +kernel)).trans c30) ?_
          refine q_iconst dX12_readEvent_52 (by decide) ?_
          intro v3368 h3369
          refine q_isubE dX12_readEvent_53 (by intros; omega) ?_
          intro v3370 h3371
          refine q_callVi hE (M' := mX12_readWhole) (as := [_, _]) dX12_readEvent_54 lk12_161 inX12_readWhole seX12_readWhole myX12_readWhole (by decide) ⟨by decide, by decide⟩ rfl (kR15 hS3010.1 ta0) (Nat.le_of_ble_eq_true rfl) rfl rfl (by decide) (by decide) (k_X12_readWhole hS3010.1 ta0) ?_
          rintro v3376 cn' K' N' I3372 R3373 L3374 ⟨rfl, rfl, rfl, rfl, g3375, p3377, w3378, -⟩
          have hS3379 := hS3010.tr g3375 (by decide +kernel) (by decide +kernel)
          have c3380 : I3372 a1 2 = v37 := (g3375.cell ta1 (by decide +kernel)).trans c3011
          have b3381 : 0 ≤ v3376.toInt ∧ v3376.toInt ≤ 0 := by omega
          clear p3377
          have ov3382 := w3378.over (by rw [c3351]; omega)
          obtain ⟨v3383, c3384⟩ : ∃ v, I3372 a0 9 = v := ⟨_, rfl⟩
          have b3385 := iv15_9 hS3379.1 ta0 c3384
          obtain ⟨v3386, c3387⟩ : ∃ v, I3372 a0 13 = v := ⟨_, rfl⟩
          obtain ⟨v3388, c3389⟩ : ∃ v, I3372 a0 14 = v := ⟨_, rfl⟩
          (try rw [c3384] at ov3382)
          (try rw [c3387] at ov3382)
          (try rw [c3389] at ov3382)
          (try rw [c3351] at ov3382)
          (try rw [c3354] at ov3382)
          (try rw [c3356] at ov3382)
          refine tr_istore_n dX12_readEvent_57 (by decide) (by decide) ?_
          refine tr_iload_n dX12_readEvent_58 rfl ?_
          refine q_iconst dX12_readEvent_59 (by decide) ?_
          intro v3390 h3391
          refine q_icmp_ne 69 dX12_readEvent_60 (by decide) (fun h3392 => ?_) (fun h3392 => ?_)
          · skip
            exfalso; omega
          · skip
            refine tr_iload_n dX12_readEvent_63 rfl ?_
            refine q_iconst dX12_readEvent_64 (by decide) ?_
            intro v3393 h3394
            refine q_iaddE dX12_readEvent_65 (by intros; omega) ?_
            intro v3395 h3396
            refine tr_goto 86 dX12_readEvent_66 (by decide) ?_
            refine tr_istore dX12_readEvent_86 (by decide) (by decide) ?_
            refine tr_aload_n dX12_readEvent_88 rfl ?_
            refine q_getI dX12_readEvent_89 fl12_99 (kR15 hS3379.1 ta0) c3384 ?_
            refine q_iconst dX12_readEvent_92 (by decide) ?_
            intro v3397 h3398
            refine q_icmp_ne 97 dX12_readEvent_93 (by decide) (fun h3399 => ?_) (fun h3399 => ?_)
            · skip
              exfalso; omega
            · skip
              have eF := hF.eq
              have eP := hP.eq
              obtain ⟨v3400, c3401⟩ : ∃ v, I3372 a0 10 = v := ⟨_, rfl⟩
              have b3402 := iv15_10 hS3379.1 ta0 c3401
              obtain ⟨v3403, c3404⟩ : ∃ v, I3372 a0 11 = v := ⟨_, rfl⟩
              obtain ⟨y3405, c3406⟩ : ∃ v, L3374 a0 15 = v := ⟨_, rfl⟩
              obtain ⟨v3407, c3408⟩ : ∃ v, I3372 a0 12 = v := ⟨_, rfl⟩
              obtain ⟨v3409, c3410⟩ : ∃ v, I3372 a0 8 = v := ⟨_, rfl⟩
              have b3411 := iv15_8 hS3379.1 ta0 c3410
              exact tr_vret hZ dX12_readEvent_96 rfl (by decide) (by decide) ⟨rfl, rfl, rfl, rfl, rfl, hS3379, (Or.inr (⟨(by first | done | omega), (by (try rw [c3384]); first | done | omega), (by (try rw [c3387]); first | done | omega), (by (try rw [c3389]); first | done | omega), trivial⟩)), trivial⟩
        · skip
          exfalso; omega
def wik_X12_readCheese : List Nat := [899, 903, 968, 969, 970, 971, 972, 973, 974, 3775, 4031, 4799, 4863]
def wrk_X12_readCheese : List Nat := []
def wlk_X12_readCheese : List Nat := [975, 4735]
set_option maxHeartbeats 4000000 in
theorem fk_X12_readCheese {l : Launch} {T : Nat → Nat} {cn : Nat} {K N : Nat → Nat} {I0 : cz_I} {R0 : cz_R} {L0 : cz_L} (hW0 : Wf T cn K N I0 R0 0) (gB : cz_B) (gs : Int) (gQ : Nat → Int) {a0 : Nat} (ta0 : T a0 = 15) (hT : ∀ t, R0 a0 5 = some t → Tx I0 t gB) (hN : ∀ b, R0 a0 4 = some b → NmM I0 R0 L0 b gQ) (pre0 : (I0 a0 9).toInt = (tkM gB gs)) (pre1 : (I0 a0 9).toInt ≤ 4) (pre2 : (I0 a0 10).toInt = (tkS gB gs)) (pre3 : (I0 a0 11).toInt = (tkG gB gs)) (pre4 : (AtW ((tkK gB gs)) ((L0 a0 15).toInt) ((tkW gB gs)))) (pre5 : (AtV ((tkK gB gs)) ((I0 a0 12).toInt) ((tkV gB gs)))) (pre6 : (AtN ((tkK gB gs)) ((I0 a0 8).toInt) ((tkN gB gs)))) (pre7 : (I0 a0 7).toInt = (gB.2)) (pre8 : ∀ b1, R0 a0 4 = some b1 → (I0 b1 0).toInt = (gQ 0)) (pre9 : ∀ b1, R0 a0 4 = some b1 → (I0 b1 1).toInt = (gQ 1)) (pre10 : ∀ b1, R0 a0 4 = some b1 → (I0 b1 2).toInt = (gQ 2)) (pre11 : ∀ b1, R0 a0 4 = some b1 → (I0 b1 3).toInt = (gQ 3)) (pre12 : ∀ b1, R0 a0 4 = some b1 → (I0 b1 4).toInt = (gQ 4)) (pre13 : ∀ b1, R0 a0 4 = some b1 → (I0 b1 5).toInt = (gQ 5)) (pre14 : ∀ b1, R0 a0 4 = some b1 → (I0 b1 6).toInt = (gQ 6)) (pre15 : ∀ b1, R0 a0 4 = some b1 → (I0 b1 9).toInt = (gQ 8)) (pre16 : (Q7M ((gQ 0)) ((gQ 7)))) (pre17 : (tkK gB gs) = 1) (pre18 : (srt gB gs) = 5) (nn4 : ∃ b, R0 a0 4 = some b) : ConE l mX12_readCheese [.ref a0] cn K N I0 R0 L0 (ca_v (fun cn' K' N' I' R' L' => cn = cn' ∧ K = K' ∧ N = N' ∧ R0 = R' ∧ St T cn K N 0 wik_X12_readCheese wrk_X12_readCheese I0 R0 I' R0 ∧ ((((lnF gB gQ gs) = 0) ∧ (∀ b1, R0 a0 4 = some b1 → (I' b1 0).toInt = (lnQ gB gQ gs 0)) ∧ (∀ b1, R0 a0 4 = some b1 → (I' b1 1).toInt = (lnQ gB gQ gs 1)) ∧ (∀ b1, R0 a0 4 = some b1 → (I' b1 2).toInt = (lnQ gB gQ gs 2)) ∧ (∀ b1, R0 a0 4 = some b1 → (I' b1 3).toInt = (lnQ gB gQ gs 3)) ∧ (∀ b1, R0 a0 4 = some b1 → (I' b1 4).toInt = (lnQ gB gQ gs 4)) ∧ (∀ b1, R0 a0 4 = some b1 → (I' b1 5).toInt = (lnQ gB gQ gs 5)) ∧ (∀ b1, R0 a0 4 = some b1 → (I' b1 6).toInt = (lnQ gB gQ gs 6)) ∧ (∀ b1, R0 a0 4 = some b1 → (I' b1 9).toInt = (lnQ gB gQ gs 8)) ∧ ((I' a0 13).toInt = (I0 a0 13).toInt) ∧ ((I' a0 9).toInt = (tkM gB (lnS gB gQ gs))) ∧ ((I' a0 9).toInt ≤ 4) ∧ ((I' a0 10).toInt = (tkS gB (lnS gB gQ gs))) ∧ ((I' a0 11).toInt = (tkG gB (lnS gB gQ gs))) ∧ ((AtW ((tkK gB (lnS gB gQ gs))) ((L' a0 15).toInt) ((tkW gB (lnS gB gQ gs))))) ∧ ((AtV ((tkK gB (lnS gB gQ gs))) ((I' a0 12).toInt) ((tkV gB (lnS gB gQ gs))))) ∧ ((AtN ((tkK gB (lnS gB gQ gs))) ((I' a0 8).toInt) ((tkN gB (lnS gB gQ gs))))) ∧ LgS T wlk_X12_readCheese L0 L' ∧ (∀ b, R0 a0 4 = some b → NmM I' R0 L' b (lnQ gB gQ gs)) ∧ True) ∨ (((lnF gB gQ gs) ≠ 0) ∧ ((I' a0 9).toInt = 5) ∧ ((I' a0 13).toInt = (lnF gB gQ gs)) ∧ ((I' a0 14).toInt = (lnP gB gQ gs)) ∧ True)) ∧ True)) := by
  refine ConE.of (by decide +kernel) rfl (Nat.le_of_ble_eq_true rfl) rfl (fun X hX hZ hE => ?_)
  subst hX
  have hS0 : St T cn K N 0 wik_X12_readCheese wrk_X12_readCheese I0 R0 I0 R0 := St.rf0 hW0
  have hL0 : LgS T wlk_X12_readCheese L0 L0 := LgS.rf0
  obtain ⟨a1, d2⟩ := nn4
  have ta1 : T a1 = 14 := hW0.rsN ta0 rfl d2
  obtain ⟨v3, c4⟩ : ∃ v, I0 a0 9 = v := ⟨_, rfl⟩
  have b5 := iv15_9 hS0.1 ta0 c4
  have p6 := pre0
  rw [c4] at p6
  have p7 := pre1
  rw [c4] at p7
  obtain ⟨v8, c9⟩ : ∃ v, I0 a0 10 = v := ⟨_, rfl⟩
  have b10 := iv15_10 hS0.1 ta0 c9
  have p11 := pre2
  rw [c9] at p11
  obtain ⟨v12, c13⟩ : ∃ v, I0 a0 11 = v := ⟨_, rfl⟩
  have p14 := pre3
  rw [c13] at p14
  obtain ⟨y15, c16⟩ : ∃ v, L0 a0 15 = v := ⟨_, rfl⟩
  have p17 := pre4
  rw [c16] at p17
  obtain ⟨v18, c19⟩ : ∃ v, I0 a0 12 = v := ⟨_, rfl⟩
  have p20 := pre5
  rw [c19] at p20
  obtain ⟨v21, c22⟩ : ∃ v, I0 a0 8 = v := ⟨_, rfl⟩
  have b23 := iv15_8 hS0.1 ta0 c22
  have p24 := pre6
  rw [c22] at p24
  obtain ⟨v25, c26⟩ : ∃ v, I0 a0 7 = v := ⟨_, rfl⟩
  have b27 := iv15_7 hW0 ta0 c26
  have p28 := pre7
  rw [c26] at p28
  obtain ⟨v29, c30⟩ : ∃ v, I0 a1 0 = v := ⟨_, rfl⟩
  have b31 := iv14_0 hW0 ta1 c30
  have p32 := pre8 _ d2
  rw [c30] at p32
  obtain ⟨v33, c34⟩ : ∃ v, I0 a1 1 = v := ⟨_, rfl⟩
  have b35 := iv14_1 hW0 ta1 c34
  have p36 := pre9 _ d2
  rw [c34] at p36
  obtain ⟨v37, c38⟩ : ∃ v, I0 a1 2 = v := ⟨_, rfl⟩
  have b39 := iv14_2 hW0 ta1 c38
  have p40 := pre10 _ d2
  rw [c38] at p40
  obtain ⟨v41, c42⟩ : ∃ v, I0 a1 3 = v := ⟨_, rfl⟩
  have b43 := iv14_3 hS0.1 ta1 c42
  have p44 := pre11 _ d2
  rw [c42] at p44
  obtain ⟨v45, c46⟩ : ∃ v, I0 a1 4 = v := ⟨_, rfl⟩
  have b47 := iv14_4 hW0 ta1 c46
  have p48 := pre12 _ d2
  rw [c46] at p48
  obtain ⟨v49, c50⟩ : ∃ v, I0 a1 5 = v := ⟨_, rfl⟩
  have b51 := iv14_5 hW0 ta1 c50
  have p52 := pre13 _ d2
  rw [c50] at p52
  obtain ⟨v53, c54⟩ : ∃ v, I0 a1 6 = v := ⟨_, rfl⟩
  have b55 := iv14_6 hW0 ta1 c54
  have p56 := pre14 _ d2
  rw [c54] at p56
  obtain ⟨v57, c58⟩ : ∃ v, I0 a1 9 = v := ⟨_, rfl⟩
  have b59 := iv14_9 hW0 ta1 c58
  have p60 := pre15 _ d2
  rw [c58] at p60
  have p61 := pre16
  have p62 := pre17
  have p63 := pre18
  obtain ⟨v64, c65⟩ : ∃ v, I0 a0 13 = v := ⟨_, rfl⟩
  have hM0 := hN _ d2
  have hF := lnF_ch gB gQ gs
  have hP := lnP_ch gB gQ gs
  replace hF := hF.neg (by omega)
  replace hP := hP.neg (by omega)
  replace hF := hF.neg (by omega)
  replace hP := hP.neg (by omega)
  refine tr_aload_n dX12_readCheese_0 rfl ?_
  refine tr_aload_n dX12_readCheese_1 rfl ?_
  refine tr_getR dX12_readCheese_2 fl12_188 (kR15 hS0.1 ta0) d2 ?_
  refine q_getI dX12_readCheese_5 fl12_224 (kR14 hS0.1 ta1) c42 ?_
  refine q_bipush dX12_readCheese_8 (by decide +kernel) ?_
  intro v66 h67
  refine q_callVv hE (M' := mX12_begins) (as := [_, _]) dX12_readCheese_10 lk12_268 inX12_begins seX12_begins myX12_begins (by decide) ⟨by decide, by decide⟩ rfl (kR15 hS0.1 ta0) (Nat.le_of_ble_eq_true rfl) rfl rfl (by decide) (by decide) (fk_X12_begins hS0.1 (gB) (gs) (gQ) ta0 (TxA.kp hT hS0 ta0 rfl rfl rfl (by decide +kernel) (by decide +kernel)) (by (try rw [c4]); first | done | omega) (by (try rw [c4]); first | done | omega) (by (try rw [c9]); first | done | omega) (by (try rw [c13]); first | done | omega) (by (try rw [c16]); first | done | assumption) (by (try rw [c19]); first | done | assumption) (by (try rw [c22]); first | done | assumption) (by (try rw [c26]); first | done | omega) (fun q0 z0 => by obtain rfl := Option.some.inj ((d2).symm.trans z0); (try rw [c30]); first | done | omega) (by first | done | omega) ⟨_, d2⟩) ?_
  rintro cn' K' N' I68 R69 L70 ⟨rfl, rfl, rfl, rfl, g71, dj74, -⟩
  have hM75 : NmM I68 R0 L0 a1 gQ := NmM.kpS hM0 g71 hS0.1 ta1 (by decide +kernel) (by decide +kernel)
  have hS76 := hS0.tr g71 (by decide +kernel) (by decide +kernel)
  have c77 : I68 a1 3 = v41 := (g71.cell ta1 (by decide +kernel)).trans c42
  rcases dj74 with ⟨p78, p79, p80, p81, p82, p83, p84, p85, p86, p87, gl88, -⟩ | ⟨p89, p90, p91, p92, -⟩ | ⟨p93, p94, p95, p96, p97, -⟩
  · skip
    have hL98 := hL0.tr gl88 (by decide +kernel)
    have hM99 : NmM I68 R0 L70 a1 gQ := NmM.kpL hM75 gl88 hS76.1 ta1 (by decide +kernel)
    obtain ⟨v100, c101⟩ : ∃ v, I68 a0 13 = v := ⟨_, rfl⟩
    rw [c101] at p80
    rw [c65] at p80
    obtain ⟨v102, c103⟩ : ∃ v, I68 a0 9 = v := ⟨_, rfl⟩
    have b104 := iv15_9 hS76.1 ta0 c103
    rw [c103] at p81
    rw [c103] at p82
    obtain ⟨v105, c106⟩ : ∃ v, I68 a0 10 = v := ⟨_, rfl⟩
    have b107 := iv15_10 hS76.1 ta0 c106
    rw [c106] at p83
    obtain ⟨v108, c109⟩ : ∃ v, I68 a0 11 = v := ⟨_, rfl⟩
    rw [c109] at p84
    obtain ⟨y110, c111⟩ : ∃ v, L70 a0 15 = v := ⟨_, rfl⟩
    rw [c111] at p85
    obtain ⟨v112, c113⟩ : ∃ v, I68 a0 12 = v := ⟨_, rfl⟩
    rw [c113] at p86
    obtain ⟨v114, c115⟩ : ∃ v, I68 a0 8 = v := ⟨_, rfl⟩
    have b116 := iv15_8 hS76.1 ta0 c115
    rw [c115] at p87
    have p117 := p61
    unfold Q7M at p117
    replace hF := hF.neg (by omega)
    replace hP := hP.neg (by omega)
    replace hF := hF.neg (by omega)
    replace hP := hP.neg (by omega)
    clear p117
    obtain ⟨w118, w119, w120, w121, w122, w123, w124, w125, w126, w127, w128, w129⟩ := lnl_5 (B := gB) (Q := gQ) (s := gs) (by omega)
    replace hF := hF.to w118 (chF_ch gB gQ (tkN gB gs))
    replace hP := hP.to w119 (chP_ch gB gQ (tkN gB gs))
    refine tr_aload_n dX12_readCheese_13 rfl ?_
    refine q_callVl hE (M' := mX12_readFresh) (as := []) dX12_readCheese_14 lk12_285 inX12_readFresh seX12_readFresh myX12_readFresh (by decide) ⟨by decide, by decide⟩ rfl (kR15 hS76.1 ta0) (Nat.le_of_ble_eq_true rfl) rfl rfl (by decide) (by decide) (fk_X12_readFresh hS76.1 (gB) ((tkN gB gs)) (gQ) ta0 (TxA.kp hT hS76 ta0 rfl rfl rfl (by decide +kernel) (by decide +kernel)) (fun b hb => (Option.some.inj (d2.symm.trans hb)) ▸ hM99) (by (try rw [c103]); first | done | omega) (by (try rw [c103]); first | done | omega) (by (try rw [c106]); first | done | omega) (by (try rw [c109]); first | done | omega) (by (try rw [c111]); first | done | assumption) (by (try rw [c113]); first | done | assumption) (by (try rw [c115]); first | done | assumption) (by (try rw [((hS76.cell ta0 (by decide +kernel)).trans c26)]); first | done | omega) (fun q0 z0 => by obtain rfl := Option.some.inj ((d2).symm.trans z0); (try rw [c77]); first | done | omega) (fun q0 z0 => by obtain rfl := Option.some.inj ((d2).symm.trans z0); (try rw [((hS76.cell ta1 (by decide +kernel)).trans c46)]); first | done | omega) ⟨_, d2⟩) ?_
    rintro y135 cn' K' N' I130 R131 L132 ⟨rfl, rfl, rfl, rfl, g133, dj136, -⟩
    have hM137 : NmM I130 R0 L70 a1 gQ := NmM.kpS hM99 g133 hS76.1 ta1 (by decide +kernel) (by decide +kernel)
    have hS138 := hS76.tr g133 (by decide +kernel) (by decide +kernel)
    have c139 : I130 a1 3 = v41 := (g133.cell ta1 (by decide +kernel)).trans c77
    rcases dj136 with ⟨p140, p141, p142, p143, p144, p145, p146, p147, p148, p149, p150, p151, p152, gl153, -⟩ | ⟨p154, p155, p156, p157, -⟩ | ⟨p158, p159, p160, p161, p162, -⟩
    · skip
      have hL163 := hL98.tr gl153 (by decide +kernel)
      have hM164 : NmM I130 R0 L132 a1 gQ := NmM.kpL hM137 gl153 hS138.1 ta1 (by decide +kernel)
      obtain ⟨v165, c166⟩ : ∃ v, I130 a0 13 = v := ⟨_, rfl⟩
      rw [c166] at p145
      rw [c101] at p145
      obtain ⟨v167, c168⟩ : ∃ v, I130 a0 9 = v := ⟨_, rfl⟩
      have b169 := iv15_9 hS138.1 ta0 c168
      rw [c168] at p146
      rw [c168] at p147
      obtain ⟨v170, c171⟩ : ∃ v, I130 a0 10 = v := ⟨_, rfl⟩
      have b172 := iv15_10 hS138.1 ta0 c171
      rw [c171] at p148
      obtain ⟨v173, c174⟩ : ∃ v, I130 a0 11 = v := ⟨_, rfl⟩
      rw [c174] at p149
      obtain ⟨y175, c176⟩ : ∃ v, L132 a0 15 = v := ⟨_, rfl⟩
      rw [c176] at p150
      obtain ⟨v177, c178⟩ : ∃ v, I130 a0 12 = v := ⟨_, rfl⟩
      rw [c178] at p151
      obtain ⟨v179, c180⟩ : ∃ v, I130 a0 8 = v := ⟨_, rfl⟩
      have b181 := iv15_8 hS138.1 ta0 c180
      rw [c180] at p152
      replace hF := hF.neg (by omega)
      replace hP := hP.neg (by omega)
      replace hF := hF.neg (by omega)
      replace hP := hP.neg (by omega)
      refine tr_lstore_n dX12_readCheese_17 (by decide) (by decide) (by decide) ?_
      refine tr_aload_n dX12_readCheese_18 rfl ?_
      refine tr_ldcwS dX12_readCheese_19 ld12_289 ?_
      refine q_iconst dX12_readCheese_22 (by decide) ?_
      intro v182 h183
      refine tr_aload_n dX12_readCheese_23 rfl ?_
      refine tr_getR dX12_readCheese_24 fl12_188 (kR15 hS138.1 ta0) d2 ?_
      refine q_getI dX12_readCheese_27 fl12_263 (kR14 hS138.1 ta1) ((hS138.cell ta1 (by decide +kernel)).trans c34) ?_
      refine q_iconst dX12_readCheese_30 (by decide) ?_
      intro v184 h185
      refine q_isubE dX12_readCheese_31 (by intros; omega) ?_
      intro v186 h187
      refine q_callVi hE (M' := mX12_readPart) (as := [_, _, _]) dX12_readCheese_32 lk12_249 inX12_readPart seX12_readPart myX12_readPart (by decide) ⟨by decide, by decide⟩ rfl (kR15 hS138.1 ta0) (Nat.le_of_ble_eq_true rfl) rfl rfl (by decide) (by decide) (fk_X12_readPart hS138.1 (gB) ((tkN gB (tkN gB gs))) ta0 (by decide) (TxA.kp hT hS138 ta0 rfl rfl rfl (by decide +kernel) (by decide +kernel)) (by (try rw [c168]); first | done | omega) (by (try rw [c168]); first | done | omega) (by (try rw [c171]); first | done | omega) (by (try rw [c174]); first | done | omega) (by (try rw [c176]); first | done | assumption) (by (try rw [c178]); first | done | assumption) (by (try rw [c180]); first | done | assumption) (by (try rw [((hS138.cell ta0 (by decide +kernel)).trans c26)]); first | done | omega)) ?_
      rintro v193 cn' K' N' I188 R189 L190 ⟨rfl, rfl, rfl, rfl, g191, dj194, -⟩
      (try rw [pk_15] at dj194)
      have hM195 : NmM I188 R0 L132 a1 gQ := NmM.kpS hM164 g191 hS138.1 ta1 (by decide +kernel) (by decide +kernel)
      have hS196 := hS138.tr g191 (by decide +kernel) (by decide +kernel)
      have c197 : I188 a1 3 = v41 := (g191.cell ta1 (by decide +kernel)).trans c139
      rcases dj194 with ⟨p198, p199, p200, p201, p202, p203, p204, p205, p206, p207, p208, p209, p210, p211, gl212, -⟩ | ⟨p213, p214, p215, p216, p217, -⟩ | ⟨p218, p219, p220, p221, p222, p223, p224, -⟩ | ⟨p225, p226, p227, p228, p229, p230, p231, p232, -⟩
      · skip
        have hL233 := hL163.tr gl212 (by decide +kernel)
        have hM234 : NmM I188 R0 L190 a1 gQ := NmM.kpL hM195 gl212 hS196.1 ta1 (by decide +kernel)
        obtain ⟨v235, c236⟩ : ∃ v, I188 a0 13 = v := ⟨_, rfl⟩
        rw [c236] at p204
        rw [c166] at p204
        obtain ⟨v237, c238⟩ : ∃ v, I188 a0 9 = v := ⟨_, rfl⟩
        have b239 := iv15_9 hS196.1 ta0 c238
        rw [c238] at p205
        rw [c238] at p206
        obtain ⟨v240, c241⟩ : ∃ v, I188 a0 10 = v := ⟨_, rfl⟩
        have b242 := iv15_10 hS196.1 ta0 c241
        rw [c241] at p207
        obtain ⟨v243, c244⟩ : ∃ v, I188 a0 11 = v := ⟨_, rfl⟩
        rw [c244] at p208
        obtain ⟨y245, c246⟩ : ∃ v, L190 a0 15 = v := ⟨_, rfl⟩
        rw [c246] at p209
        obtain ⟨v247, c248⟩ : ∃ v, I188 a0 12 = v := ⟨_, rfl⟩
        rw [c248] at p210
        obtain ⟨v249, c250⟩ : ∃ v, I188 a0 8 = v := ⟨_, rfl⟩
        have b251 := iv15_8 hS196.1 ta0 c250
        rw [c250] at p211
        replace hF := hF.neg (by omega)
        replace hP := hP.neg (by omega)
        replace hF := hF.neg (by omega)
        replace hP := hP.neg (by omega)
        replace hF := hF.neg (by omega)
        replace hP := hP.neg (by omega)
        refine tr_istore_n dX12_readCheese_35 (by decide) (by decide) ?_
        refine tr_aload_n dX12_readCheese_36 rfl ?_
        refine tr_ldcS dX12_readCheese_37 ld12_186 ?_
        refine q_callVi hE (M' := mX12_eatsWord) (as := [_]) dX12_readCheese_39 lk12_290 inX12_eatsWord seX12_eatsWord myX12_eatsWord (by decide) ⟨by decide, by decide⟩ rfl (kR15 hS196.1 ta0) (Nat.le_of_ble_eq_true rfl) rfl rfl (by decide) (by decide) (fk_X12_eatsWord hS196.1 (gB) ((tkN gB (tkN gB (tkN gB (tkN gB gs))))) ta0 (by decide) (TxA.kp hT hS196 ta0 rfl rfl rfl (by decide +kernel) (by decide +kernel)) (by (try rw [c238]); first | done | omega) (by (try rw [c238]); first | done | omega) (by (try rw [c241]); first | done | omega) (by (try rw [c244]); first | done | omega) (by (try rw [c246]); first | done | assumption) (by (try rw [c248]); first | done | assumption) (by (try rw [c250]); first | done | assumption) (by (try rw [((hS196.cell ta0 (by decide +kernel)).trans c26)]); first | done | omega)) ?_
        rintro v257 cn' K' N' I252 R253 L254 ⟨rfl, rfl, rfl, rfl, g255, gl256, h258, dj259, -⟩
        (try rw [pk_10] at dj259)
        have hM260 : NmM I252 R0 L190 a1 gQ := NmM.kpS hM234 g255 hS196.1 ta1 (by decide +kernel) (by decide +kernel)
        have hS261 := hS196.tr g255 (by decide +kernel) (by decide +kernel)
        have c262 : I252 a1 3 = v41 := (g255.cell ta1 (by decide +kernel)).trans c197
        have c263 : I252 a0 13 = v235 := (g255.cell ta0 (by decide +kernel)).trans c236
        have hL264 := hL233.tr gl256 (by decide +kernel)
        have hM265 : NmM I252 R0 L254 a1 gQ := NmM.kpL hM260 gl256 hS261.1 ta1 (by decide +kernel)
        rcases dj259 with ⟨p266, p267, p268, p269, p270, p271, p272, p273, p274, p275, p276, -⟩ | ⟨p277, p278, p279, p280, p281, p282, p283, p284, p285, p286, -⟩
        · skip
          rw [c263] at p269
          rw [c236] at p269
          obtain ⟨v287, c288⟩ : ∃ v, I252 a0 9 = v := ⟨_, rfl⟩
          have b289 := iv15_9 hS261.1 ta0 c288
          rw [c288] at p270
          rw [c288] at p271
          obtain ⟨v290, c291⟩ : ∃ v, I252 a0 10 = v := ⟨_, rfl⟩
          have b292 := iv15_10 hS261.1 ta0 c291
          rw [c291] at p272
          obtain ⟨v293, c294⟩ : ∃ v, I252 a0 11 = v := ⟨_, rfl⟩
          rw [c294] at p273
          obtain ⟨y295, c296⟩ : ∃ v, L254 a0 15 = v := ⟨_, rfl⟩
          rw [c296] at p274
          obtain ⟨v297, c298⟩ : ∃ v, I252 a0 12 = v := ⟨_, rfl⟩
          rw [c298] at p275
          obtain ⟨v299, c300⟩ : ∃ v, I252 a0 8 = v := ⟨_, rfl⟩
          have b301 := iv15_8 hS261.1 ta0 c300
          rw [c300] at p276
          refine tr_istore dX12_readCheese_42 (by decide) (by decide) ?_
          refine tr_aload_n dX12_readCheese_44 rfl ?_
          refine q_getI dX12_readCheese_45 fl12_99 (kR15 hS261.1 ta0) c288 ?_
          refine q_iconst dX12_readCheese_48 (by decide) ?_
          intro v302 h303
          refine q_icmp_ne 53 dX12_readCheese_49 (by decide) (fun h304 => ?_) (fun h304 => ?_)
          · skip
            refine tr_aload_n dX12_readCheese_53 rfl ?_
            refine tr_lload_n dX12_readCheese_54 rfl ?_
            refine q_iconst dX12_readCheese_55 (by decide) ?_
            intro v305 h306
            refine tr_aload_n dX12_readCheese_56 rfl ?_
            refine tr_getR dX12_readCheese_57 fl12_188 (kR15 hS261.1 ta0) d2 ?_
            refine q_getI dX12_readCheese_60 fl12_224 (kR14 hS261.1 ta1) c262 ?_
            obtain ⟨v308, c309⟩ : ∃ v, I252 a1 7 = v := ⟨_, rfl⟩
            have b310 := iv14_7 hS261.1 ta1 c309
            have p307 := hS261.1.2.2.2.2.1 a0 ta0 _ d2
            rw [c309, c262, ((hS261.cell ta1 (by decide +kernel)).trans c46)] at p307
            refine q_callVv hE (M' := mX12_names) (as := [_, _, _]) dX12_readCheese_63 lk12_293 inX12_names seX12_names myX12_names (by decide) ⟨by decide, by decide⟩ rfl (kR15 hS261.1 ta0) (Nat.le_of_ble_eq_true rfl) rfl rfl (by decide) (by decide) (fk_X12_names hS261.1  ta0 (fun q0 z0 => by obtain rfl := Option.some.inj ((d2).symm.trans z0); (try rw [c309]); first | done | omega) ⟨_, d2⟩) ?_
            rintro cn' K' N' I311 R312 L313 ⟨rfl, rfl, rfl, rfl, g314, gl315, rp317, -⟩
            have hS318 := hS261.tr g314 (by decide +kernel) (by decide +kernel)
            have c319 : I311 a1 3 = v41 := (g314.cell ta1 (by decide +kernel)).trans c262
            have c320 : I311 a0 13 = v235 := (g314.cell ta0 (by decide +kernel)).trans c263
            have c321 : I311 a0 9 = v287 := (g314.cell ta0 (by decide +kernel)).trans c288
            have c322 : I311 a0 10 = v290 := (g314.cell ta0 (by decide +kernel)).trans c291
            have c323 : I311 a0 11 = v293 := (g314.cell ta0 (by decide +kernel)).trans c294
            have c324 : I311 a0 12 = v297 := (g314.cell ta0 (by decide +kernel)).trans c298
            have c325 : I311 a0 8 = v299 := (g314.cell ta0 (by decide +kernel)).trans c300
            have hL326 := hL264.tr gl315 (by decide +kernel)
            have c327 : L313 a0 15 = y295 := (gl315.cell ta0 (by decide +kernel)).trans c296
            have hM328 := NmM.up5 (B := gB) (s := (tkN gB gs)) hM265 (rp317 _ d2) (by omega) (by omega) (by rw [c309]; omega) (by omega) (by omega)
            refine tr_aload_n dX12_readCheese_66 rfl ?_
            refine tr_getR dX12_readCheese_67 fl12_188 (kR15 hS318.1 ta0) d2 ?_
            obtain ⟨a329, d330, ta329⟩ := rf14_15 hW0 ta1
            refine tr_getR dX12_readCheese_70 fl12_296 (kR14 hS318.1 ta1) d330 ?_
            refine tr_aload_n dX12_readCheese_73 rfl ?_
            refine tr_getR dX12_readCheese_74 fl12_188 (kR15 hS318.1 ta0) d2 ?_
            refine q_getI dX12_readCheese_77 fl12_224 (kR14 hS318.1 ta1) c319 ?_
            refine tr_iload_n dX12_readCheese_80 rfl ?_
            refine q_iast dX12_readCheese_81 (kR58 hS318.1 ta329) (ti_in (nR58 hS318.1 ta329) (by omega) (by omega)) hS318 ta329 (by show (0 : Int) ≤ v193.toInt ∧ v193.toInt ≤ (3 : Int); omega) rfl (by rfl) ?_
            intro I331 hS332 e334 f333
            have c335 : I331 a1 3 = v41 := (f333 _ _ (fun q => by have z := ta1; rw [q.1, ta329] at z; exact absurd z (by decide))).trans c319
            have c336 : I331 a0 13 = v235 := (f333 _ _ (fun q => by have z := ta0; rw [q.1, ta329] at z; exact absurd z (by decide))).trans c320
            have c337 : I331 a0 9 = v287 := (f333 _ _ (fun q => by have z := ta0; rw [q.1, ta329] at z; exact absurd z (by decide))).trans c321
            have c338 : I331 a0 10 = v290 := (f333 _ _ (fun q => by have z := ta0; rw [q.1, ta329] at z; exact absurd z (by decide))).trans c322
            have c339 : I331 a0 11 = v293 := (f333 _ _ (fun q => by have z := ta0; rw [q.1, ta329] at z; exact absurd z (by decide))).trans c323
            have c340 : I331 a0 12 = v297 := (f333 _ _ (fun q => by have z := ta0; rw [q.1, ta329] at z; exact absurd z (by decide))).trans c324
            have c341 : I331 a0 8 = v299 := (f333 _ _ (fun q => by have z := ta0; rw [q.1, ta329] at z; exact absurd z (by decide))).trans c325
            have hM342 : NmM I331 R0 L313 a1 (bdQ gB gQ 5 (tkN gB gs)) := NmM.kp1 hM328 f333 ta329 rfl rfl hS318.1 ta1
            refine tr_aload_n dX12_readCheese_82 rfl ?_
            refine tr_getR dX12_readCheese_83 fl12_188 (kR15 hS332.1 ta0) d2 ?_
            obtain ⟨a343, d344, ta343⟩ := rf14_19 hW0 ta1
            refine tr_getR dX12_readCheese_86 fl12_299 (kR14 hS332.1 ta1) d344 ?_
            refine tr_aload_n dX12_readCheese_89 rfl ?_
            refine tr_getR dX12_readCheese_90 fl12_188 (kR15 hS332.1 ta0) d2 ?_
            refine q_getI dX12_readCheese_93 fl12_224 (kR14 hS332.1 ta1) c335 ?_
            refine tr_iload dX12_readCheese_96 rfl ?_
            refine q_zast dX12_readCheese_98 (kR62 hS332.1 ta343) (ti_in (nR62 hS332.1 ta343) (by omega) (by omega)) hS332 ta343 (by omega) rfl rfl (by rfl) ?_
            intro I345 hS346 f347
            have c349 : I345 a1 3 = v41 := (f347 _ _ (fun q => by have z := ta1; rw [q.1, ta343] at z; exact absurd z (by decide))).trans c335
            have c350 : I345 a0 13 = v235 := (f347 _ _ (fun q => by have z := ta0; rw [q.1, ta343] at z; exact absurd z (by decide))).trans c336
            have c351 : I345 a0 9 = v287 := (f347 _ _ (fun q => by have z := ta0; rw [q.1, ta343] at z; exact absurd z (by decide))).trans c337
            have c352 : I345 a0 10 = v290 := (f347 _ _ (fun q => by have z := ta0; rw [q.1, ta343] at z; exact absurd z (by decide))).trans c338
            have c353 : I345 a0 11 = v293 := (f347 _ _ (fun q => by have z := ta0; rw [q.1, ta343] at z; exact absurd z (by decide))).trans c339
            have c354 : I345 a0 12 = v297 := (f347 _ _ (fun q => by have z := ta0; rw [q.1, ta343] at z; exact absurd z (by decide))).trans c340
            have c355 : I345 a0 8 = v299 := (f347 _ _ (fun q => by have z := ta0; rw [q.1, ta343] at z; exact absurd z (by decide))).trans c341
            have hM356 : NmM I345 R0 L313 a1 (bdQ gB gQ 5 (tkN gB gs)) := NmM.kp1 hM342 f347 ta343 rfl rfl hS332.1 ta1
            refine tr_aload_n dX12_readCheese_99 rfl ?_
            refine tr_getR dX12_readCheese_100 fl12_188 (kR15 hS346.1 ta0) d2 ?_
            refine tr_dup dX12_readCheese_103 rfl ?_
            refine q_getI dX12_readCheese_104 fl12_224 (kR14 hS346.1 ta1) c349 ?_
            refine q_iconst dX12_readCheese_107 (by decide) ?_
            intro v357 h358
            refine q_iaddE dX12_readCheese_108 (by intros; omega) ?_
            intro v359 h360
            refine q_putX dX12_readCheese_109 fl12_224 (kR14 hS346.1 ta1) (Or.inl rfl) hS346 ta1 (by decide +kernel) (hS346.1.putN (d' := 0) ta0 d2 (Or.inr (Or.inl rfl)) (by rw [c349]; omega) (by decide) (by show (0 : Int) ≤ v359.toInt ∧ v359.toInt ≤ (8 : Int); omega)) ?_
            intro I361 hS362 e363 f364
            have c365 : I361 a0 13 = v235 := (f364 _ _ (fun q => absurd q.2 (by decide))).trans c350
            have c366 : I361 a0 9 = v287 := (f364 _ _ (fun q => absurd q.2 (by decide))).trans c351
            have c367 : I361 a0 10 = v290 := (f364 _ _ (fun q => absurd q.2 (by decide))).trans c352
            have c368 : I361 a0 11 = v293 := (f364 _ _ (fun q => absurd q.2 (by decide))).trans c353
            have c369 : I361 a0 12 = v297 := (f364 _ _ (fun q => absurd q.2 (by decide))).trans c354
            have c370 : I361 a0 8 = v299 := (f364 _ _ (fun q => absurd q.2 (by decide))).trans c355
            have hM371 : NmM I361 R0 L313 a1 (bdQ gB gQ 5 (tkN gB gs)) := NmM.kp1 hM356 f364 ta1 rfl rfl hS346.1 ta1
            have eF := hF.eq
            have eP := hP.eq
            have es372 : chS gB gQ (tkN gB gs) = (tkN gB (tkN gB (tkN gB (tkN gB (tkN gB gs))))) := by simp only [chS, ↓reduceIte]; repeat' (first | split | omega)
            obtain ⟨v373, c374⟩ : ∃ v, I361 a0 14 = v := ⟨_, rfl⟩
            exact tr_vret hZ dX12_readCheese_112 rfl (by decide) (by decide) ⟨rfl, rfl, rfl, rfl, rfl, hS362, (Or.inl ⟨(by (try rw [w120]); (try rw [es372]); first | done | omega), (fun q0 z0 => by obtain rfl := Option.some.inj ((d2).symm.trans z0); (try rw [w120]); (try rw [es372]); (try rw [((hS362.cell ta1 (by decide +kernel)).trans c30)]); first | done | omega), (fun q0 z0 => by obtain rfl := Option.some.inj ((d2).symm.trans z0); (try rw [w120]); (try rw [es372]); (try rw [((hS362.cell ta1 (by decide +kernel)).trans c34)]); first | done | omega), (fun q0 z0 => by obtain rfl := Option.some.inj ((d2).symm.trans z0); (try rw [w120]); (try rw [es372]); (try rw [((hS362.cell ta1 (by decide +kernel)).trans c38)]); first | done | omega), (fun q0 z0 => by obtain rfl := Option.some.inj ((d2).symm.trans z0); (try rw [w120]); (try rw [es372]); (try rw [e363]); first | done | omega), (fun q0 z0 => by obtain rfl := Option.some.inj ((d2).symm.trans z0); (try rw [w120]); (try rw [es372]); (try rw [((hS362.cell ta1 (by decide +kernel)).trans c46)]); first | done | omega), (fun q0 z0 => by obtain rfl := Option.some.inj ((d2).symm.trans z0); (try rw [w120]); (try rw [es372]); (try rw [((hS362.cell ta1 (by decide +kernel)).trans c50)]); first | done | omega), (fun q0 z0 => by obtain rfl := Option.some.inj ((d2).symm.trans z0); (try rw [w120]); (try rw [es372]); (try rw [((hS362.cell ta1 (by decide +kernel)).trans c54)]); first | done | omega), (fun q0 z0 => by obtain rfl := Option.some.inj ((d2).symm.trans z0); (try rw [w120]); (try rw [es372]); (try rw [((hS362.cell ta1 (by decide +kernel)).trans c58)]); first | done | omega), (by (try rw [w120]); (try rw [es372]); (try rw [c365]); (try rw [c65]); first | done | omega), (by (try rw [w120]); (try rw [es372]); (try rw [c366]); first | done | omega), (by (try rw [w120]); (try rw [es372]); (try rw [c366]); first | done | omega), (by (try rw [w120]); (try rw [es372]); (try rw [c367]); first | done | omega), (by (try rw [w120]); (try rw [es372]); (try rw [c368]); first | done | omega), (by (try rw [w120]); (try rw [es372]); (try rw [c327]); first | done | assumption), (by (try rw [w120]); (try rw [es372]); (try rw [c369]); first | done | assumption), (by (try rw [w120]); (try rw [es372]); (try rw [c370]); first | done | assumption), hL326, (fun b hb => (Option.some.inj (d2.symm.trans hb)) ▸ NmM.ln hM371 (by omega)), trivial⟩), trivial⟩
          · skip
            exfalso; omega
        · skip
          rw [c263] at p279
          rw [c236] at p279
          obtain ⟨v375, c376⟩ : ∃ v, I252 a0 9 = v := ⟨_, rfl⟩
          have b377 := iv15_9 hS261.1 ta0 c376
          rw [c376] at p280
          rw [c376] at p281
          obtain ⟨v378, c379⟩ : ∃ v, I252 a0 10 = v := ⟨_, rfl⟩
          have b380 := iv15_10 hS261.1 ta0 c379
          rw [c379] at p282
          obtain ⟨v381, c382⟩ : ∃ v, I252 a0 11 = v := ⟨_, rfl⟩
          rw [c382] at p283
          obtain ⟨y383, c384⟩ : ∃ v, L254 a0 15 = v := ⟨_, rfl⟩
          rw [c384] at p284
          obtain ⟨v385, c386⟩ : ∃ v, I252 a0 12 = v := ⟨_, rfl⟩
          rw [c386] at p285
          obtain ⟨v387, c388⟩ : ∃ v, I252 a0 8 = v := ⟨_, rfl⟩
          have b389 := iv15_8 hS261.1 ta0 c388
          rw [c388] at p286
          refine tr_istore dX12_readCheese_42 (by decide) (by decide) ?_
          refine tr_aload_n dX12_readCheese_44 rfl ?_
          refine q_getI dX12_readCheese_45 fl12_99 (kR15 hS261.1 ta0) c376 ?_
          refine q_iconst dX12_readCheese_48 (by decide) ?_
          intro v390 h391
          refine q_icmp_ne 53 dX12_readCheese_49 (by decide) (fun h392 => ?_) (fun h392 => ?_)
          · skip
            refine tr_aload_n dX12_readCheese_53 rfl ?_
            refine tr_lload_n dX12_readCheese_54 rfl ?_
            refine q_iconst dX12_readCheese_55 (by decide) ?_
            intro v393 h394
            refine tr_aload_n dX12_readCheese_56 rfl ?_
            refine tr_getR dX12_readCheese_57 fl12_188 (kR15 hS261.1 ta0) d2 ?_
            refine q_getI dX12_readCheese_60 fl12_224 (kR14 hS261.1 ta1) c262 ?_
            obtain ⟨v396, c397⟩ : ∃ v, I252 a1 7 = v := ⟨_, rfl⟩
            have b398 := iv14_7 hS261.1 ta1 c397
            have p395 := hS261.1.2.2.2.2.1 a0 ta0 _ d2
            rw [c397, c262, ((hS261.cell ta1 (by decide +kernel)).trans c46)] at p395
            refine q_callVv hE (M' := mX12_names) (as := [_, _, _]) dX12_readCheese_63 lk12_293 inX12_names seX12_names myX12_names (by decide) ⟨by decide, by decide⟩ rfl (kR15 hS261.1 ta0) (Nat.le_of_ble_eq_true rfl) rfl rfl (by decide) (by decide) (fk_X12_names hS261.1  ta0 (fun q0 z0 => by obtain rfl := Option.some.inj ((d2).symm.trans z0); (try rw [c397]); first | done | omega) ⟨_, d2⟩) ?_
            rintro cn' K' N' I399 R400 L401 ⟨rfl, rfl, rfl, rfl, g402, gl403, rp405, -⟩
            have hS406 := hS261.tr g402 (by decide +kernel) (by decide +kernel)
            have c407 : I399 a1 3 = v41 := (g402.cell ta1 (by decide +kernel)).trans c262
            have c408 : I399 a0 13 = v235 := (g402.cell ta0 (by decide +kernel)).trans c263
            have c409 : I399 a0 9 = v375 := (g402.cell ta0 (by decide +kernel)).trans c376
            have c410 : I399 a0 10 = v378 := (g402.cell ta0 (by decide +kernel)).trans c379
            have c411 : I399 a0 11 = v381 := (g402.cell ta0 (by decide +kernel)).trans c382
            have c412 : I399 a0 12 = v385 := (g402.cell ta0 (by decide +kernel)).trans c386
            have c413 : I399 a0 8 = v387 := (g402.cell ta0 (by decide +kernel)).trans c388
            have hL414 := hL264.tr gl403 (by decide +kernel)
            have c415 : L401 a0 15 = y383 := (gl403.cell ta0 (by decide +kernel)).trans c384
            have hM416 := NmM.up5 (B := gB) (s := (tkN gB gs)) hM265 (rp405 _ d2) (by omega) (by omega) (by rw [c397]; omega) (by omega) (by omega)
            refine tr_aload_n dX12_readCheese_66 rfl ?_
            refine tr_getR dX12_readCheese_67 fl12_188 (kR15 hS406.1 ta0) d2 ?_
            obtain ⟨a417, d418, ta417⟩ := rf14_15 hW0 ta1
            refine tr_getR dX12_readCheese_70 fl12_296 (kR14 hS406.1 ta1) d418 ?_
            refine tr_aload_n dX12_readCheese_73 rfl ?_
            refine tr_getR dX12_readCheese_74 fl12_188 (kR15 hS406.1 ta0) d2 ?_
            refine q_getI dX12_readCheese_77 fl12_224 (kR14 hS406.1 ta1) c407 ?_
            refine tr_iload_n dX12_readCheese_80 rfl ?_
            refine q_iast dX12_readCheese_81 (kR58 hS406.1 ta417) (ti_in (nR58 hS406.1 ta417) (by omega) (by omega)) hS406 ta417 (by show (0 : Int) ≤ v193.toInt ∧ v193.toInt ≤ (3 : Int); omega) rfl (by rfl) ?_
            intro I419 hS420 e422 f421
            have c423 : I419 a1 3 = v41 := (f421 _ _ (fun q => by have z := ta1; rw [q.1, ta417] at z; exact absurd z (by decide))).trans c407
            have c424 : I419 a0 13 = v235 := (f421 _ _ (fun q => by have z := ta0; rw [q.1, ta417] at z; exact absurd z (by decide))).trans c408
            have c425 : I419 a0 9 = v375 := (f421 _ _ (fun q => by have z := ta0; rw [q.1, ta417] at z; exact absurd z (by decide))).trans c409
            have c426 : I419 a0 10 = v378 := (f421 _ _ (fun q => by have z := ta0; rw [q.1, ta417] at z; exact absurd z (by decide))).trans c410
            have c427 : I419 a0 11 = v381 := (f421 _ _ (fun q => by have z := ta0; rw [q.1, ta417] at z; exact absurd z (by decide))).trans c411
            have c428 : I419 a0 12 = v385 := (f421 _ _ (fun q => by have z := ta0; rw [q.1, ta417] at z; exact absurd z (by decide))).trans c412
            have c429 : I419 a0 8 = v387 := (f421 _ _ (fun q => by have z := ta0; rw [q.1, ta417] at z; exact absurd z (by decide))).trans c413
            have hM430 : NmM I419 R0 L401 a1 (bdQ gB gQ 5 (tkN gB gs)) := NmM.kp1 hM416 f421 ta417 rfl rfl hS406.1 ta1
            refine tr_aload_n dX12_readCheese_82 rfl ?_
            refine tr_getR dX12_readCheese_83 fl12_188 (kR15 hS420.1 ta0) d2 ?_
            obtain ⟨a431, d432, ta431⟩ := rf14_19 hW0 ta1
            refine tr_getR dX12_readCheese_86 fl12_299 (kR14 hS420.1 ta1) d432 ?_
            refine tr_aload_n dX12_readCheese_89 rfl ?_
            refine tr_getR dX12_readCheese_90 fl12_188 (kR15 hS420.1 ta0) d2 ?_
            refine q_getI dX12_readCheese_93 fl12_224 (kR14 hS420.1 ta1) c423 ?_
            refine tr_iload dX12_readCheese_96 rfl ?_
            refine q_zast dX12_readCheese_98 (kR62 hS420.1 ta431) (ti_in (nR62 hS420.1 ta431) (by omega) (by omega)) hS420 ta431 (by omega) rfl rfl (by rfl) ?_
            intro I433 hS434 f435
            have c437 : I433 a1 3 = v41 := (f435 _ _ (fun q => by have z := ta1; rw [q.1, ta431] at z; exact absurd z (by decide))).trans c423
            have c438 : I433 a0 13 = v235 := (f435 _ _ (fun q => by have z := ta0; rw [q.1, ta431] at z; exact absurd z (by decide))).trans c424
            have c439 : I433 a0 9 = v375 := (f435 _ _ (fun q => by have z := ta0; rw [q.1, ta431] at z; exact absurd z (by decide))).trans c425
            have c440 : I433 a0 10 = v378 := (f435 _ _ (fun q => by have z := ta0; rw [q.1, ta431] at z; exact absurd z (by decide))).trans c426
            have c441 : I433 a0 11 = v381 := (f435 _ _ (fun q => by have z := ta0; rw [q.1, ta431] at z; exact absurd z (by decide))).trans c427
            have c442 : I433 a0 12 = v385 := (f435 _ _ (fun q => by have z := ta0; rw [q.1, ta431] at z; exact absurd z (by decide))).trans c428
            have c443 : I433 a0 8 = v387 := (f435 _ _ (fun q => by have z := ta0; rw [q.1, ta431] at z; exact absurd z (by decide))).trans c429
            have hM444 : NmM I433 R0 L401 a1 (bdQ gB gQ 5 (tkN gB gs)) := NmM.kp1 hM430 f435 ta431 rfl rfl hS420.1 ta1
            refine tr_aload_n dX12_readCheese_99 rfl ?_
            refine tr_getR dX12_readCheese_100 fl12_188 (kR15 hS434.1 ta0) d2 ?_
            refine tr_dup dX12_readCheese_103 rfl ?_
            refine q_getI dX12_readCheese_104 fl12_224 (kR14 hS434.1 ta1) c437 ?_
            refine q_iconst dX12_readCheese_107 (by decide) ?_
            intro v445 h446
            refine q_iaddE dX12_readCheese_108 (by intros; omega) ?_
            intro v447 h448
            refine q_putX dX12_readCheese_109 fl12_224 (kR14 hS434.1 ta1) (Or.inl rfl) hS434 ta1 (by decide +kernel) (hS434.1.putN (d' := 0) ta0 d2 (Or.inr (Or.inl rfl)) (by rw [c437]; omega) (by decide) (by show (0 : Int) ≤ v447.toInt ∧ v447.toInt ≤ (8 : Int); omega)) ?_
            intro I449 hS450 e451 f452
            have c453 : I449 a0 13 = v235 := (f452 _ _ (fun q => absurd q.2 (by decide))).trans c438
            have c454 : I449 a0 9 = v375 := (f452 _ _ (fun q => absurd q.2 (by decide))).trans c439
            have c455 : I449 a0 10 = v378 := (f452 _ _ (fun q => absurd q.2 (by decide))).trans c440
            have c456 : I449 a0 11 = v381 := (f452 _ _ (fun q => absurd q.2 (by decide))).trans c441
            have c457 : I449 a0 12 = v385 := (f452 _ _ (fun q => absurd q.2 (by decide))).trans c442
            have c458 : I449 a0 8 = v387 := (f452 _ _ (fun q => absurd q.2 (by decide))).trans c443
            have hM459 : NmM I449 R0 L401 a1 (bdQ gB gQ 5 (tkN gB gs)) := NmM.kp1 hM444 f452 ta1 rfl rfl hS434.1 ta1
            have eF := hF.eq
            have eP := hP.eq
            have p461 := p278
            unfold NotW at p461
            have es460 : chS gB gQ (tkN gB gs) = (tkN gB (tkN gB (tkN gB (tkN gB gs)))) := by simp only [chS, ↓reduceIte]; repeat' (first | split | omega)
            obtain ⟨v462, c463⟩ : ∃ v, I449 a0 14 = v := ⟨_, rfl⟩
            exact tr_vret hZ dX12_readCheese_112 rfl (by decide) (by decide) ⟨rfl, rfl, rfl, rfl, rfl, hS450, (Or.inl ⟨(by (try rw [w120]); (try rw [es460]); first | done | omega), (fun q0 z0 => by obtain rfl := Option.some.inj ((d2).symm.trans z0); (try rw [w120]); (try rw [es460]); (try rw [((hS450.cell ta1 (by decide +kernel)).trans c30)]); first | done | omega), (fun q0 z0 => by obtain rfl := Option.some.inj ((d2).symm.trans z0); (try rw [w120]); (try rw [es460]); (try rw [((hS450.cell ta1 (by decide +kernel)).trans c34)]); first | done | omega), (fun q0 z0 => by obtain rfl := Option.some.inj ((d2).symm.trans z0); (try rw [w120]); (try rw [es460]); (try rw [((hS450.cell ta1 (by decide +kernel)).trans c38)]); first | done | omega), (fun q0 z0 => by obtain rfl := Option.some.inj ((d2).symm.trans z0); (try rw [w120]); (try rw [es460]); (try rw [e451]); first | done | omega), (fun q0 z0 => by obtain rfl := Option.some.inj ((d2).symm.trans z0); (try rw [w120]); (try rw [es460]); (try rw [((hS450.cell ta1 (by decide +kernel)).trans c46)]); first | done | omega), (fun q0 z0 => by obtain rfl := Option.some.inj ((d2).symm.trans z0); (try rw [w120]); (try rw [es460]); (try rw [((hS450.cell ta1 (by decide +kernel)).trans c50)]); first | done | omega), (fun q0 z0 => by obtain rfl := Option.some.inj ((d2).symm.trans z0); (try rw [w120]); (try rw [es460]); (try rw [((hS450.cell ta1 (by decide +kernel)).trans c54)]); first | done | omega), (fun q0 z0 => by obtain rfl := Option.some.inj ((d2).symm.trans z0); (try rw [w120]); (try rw [es460]); (try rw [((hS450.cell ta1 (by decide +kernel)).trans c58)]); first | done | omega), (by (try rw [w120]); (try rw [es460]); (try rw [c453]); (try rw [c65]); first | done | omega), (by (try rw [w120]); (try rw [es460]); (try rw [c454]); first | done | omega), (by (try rw [w120]); (try rw [es460]); (try rw [c454]); first | done | omega), (by (try rw [w120]); (try rw [es460]); (try rw [c455]); first | done | omega), (by (try rw [w120]); (try rw [es460]); (try rw [c456]); first | done | omega), (by (try rw [w120]); (try rw [es460]); (try rw [c415]); first | done | assumption), (by (try rw [w120]); (try rw [es460]); (try rw [c457]); first | done | assumption), (by (try rw [w120]); (try rw [es460]); (try rw [c458]); first | done | assumption), hL414, (fun b hb => (Option.some.inj (d2.symm.trans hb)) ▸ NmM.ln hM459 (by omega)), trivial⟩), trivial⟩
          · skip
            exfalso; omega
      · skip
        obtain ⟨v464, c465⟩ : ∃ v, I188 a0 9 = v := ⟨_, rfl⟩
        have b466 := iv15_9 hS196.1 ta0 c465
        rw [c465] at p215
        obtain ⟨v467, c468⟩ : ∃ v, I188 a0 13 = v := ⟨_, rfl⟩
        rw [c468] at p216
        obtain ⟨v469, c470⟩ : ∃ v, I188 a0 14 = v := ⟨_, rfl⟩
        rw [c470] at p217
        replace hF := hF.pos (by omega)
        replace hP := hP.pos (by omega)
        refine tr_istore_n dX12_readCheese_35 (by decide) (by decide) ?_
        refine tr_aload_n dX12_readCheese_36 rfl ?_
        refine tr_ldcS dX12_readCheese_37 ld12_186 ?_
        refine q_callVi hE (M' := mX12_eatsWord) (as := [_]) dX12_readCheese_39 lk12_290 inX12_eatsWord seX12_eatsWord myX12_eatsWord (by decide) ⟨by decide, by decide⟩ rfl (kR15 hS196.1 ta0) (Nat.le_of_ble_eq_true rfl) rfl rfl (by decide) (by decide) (k_X12_eatsWord hS196.1 ta0 (by decide)) ?_
        rintro v475 cn' K' N' I471 R472 L473 ⟨rfl, rfl, rfl, rfl, g474, h476, w477, -⟩
        have hS478 := hS196.tr g474 (by decide +kernel) (by decide +kernel)
        have c479 : I471 a1 3 = v41 := (g474.cell ta1 (by decide +kernel)).trans c197
        have c480 : I471 a0 13 = v467 := (g474.cell ta0 (by decide +kernel)).trans c468
        have c481 : I471 a0 14 = v469 := (g474.cell ta0 (by decide +kernel)).trans c470
        have ov482 := w477.over (by rw [c465]; omega)
        obtain ⟨v483, c484⟩ : ∃ v, I471 a0 9 = v := ⟨_, rfl⟩
        have b485 := iv15_9 hS478.1 ta0 c484
        obtain ⟨v486, c487⟩ : ∃ v, I471 a0 13 = v := ⟨_, rfl⟩
        obtain ⟨v488, c489⟩ : ∃ v, I471 a0 14 = v := ⟨_, rfl⟩
        (try rw [c484] at ov482)
        (try rw [c487] at ov482)
        (try rw [c489] at ov482)
        (try rw [c465] at ov482)
        (try rw [c468] at ov482)
        (try rw [c470] at ov482)
        refine tr_istore dX12_readCheese_42 (by decide) (by decide) ?_
        refine tr_aload_n dX12_readCheese_44 rfl ?_
        refine q_getI dX12_readCheese_45 fl12_99 (kR15 hS478.1 ta0) c484 ?_
        refine q_iconst dX12_readCheese_48 (by decide) ?_
        intro v490 h491
        refine q_icmp_ne 53 dX12_readCheese_49 (by decide) (fun h492 => ?_) (fun h492 => ?_)
        · skip
          exfalso; omega
        · skip
          have eF := hF.eq
          have eP := hP.eq
          obtain ⟨v493, c494⟩ : ∃ v, I471 a0 10 = v := ⟨_, rfl⟩
          have b495 := iv15_10 hS478.1 ta0 c494
          obtain ⟨v496, c497⟩ : ∃ v, I471 a0 11 = v := ⟨_, rfl⟩
          obtain ⟨y498, c499⟩ : ∃ v, L473 a0 15 = v := ⟨_, rfl⟩
          obtain ⟨v500, c501⟩ : ∃ v, I471 a0 12 = v := ⟨_, rfl⟩
          obtain ⟨v502, c503⟩ : ∃ v, I471 a0 8 = v := ⟨_, rfl⟩
          have b504 := iv15_8 hS478.1 ta0 c503
          exact tr_vret hZ dX12_readCheese_52 rfl (by decide) (by decide) ⟨rfl, rfl, rfl, rfl, rfl, hS478, (Or.inr (⟨(by (try rw [w120]); first | done | omega), (by (try rw [w120]); (try rw [c484]); first | done | omega), (by (try rw [w120]); (try rw [c487]); first | done | omega), (by (try rw [w120]); (try rw [c489]); first | done | omega), trivial⟩)), trivial⟩
      · skip
        obtain ⟨v505, c506⟩ : ∃ v, I188 a0 9 = v := ⟨_, rfl⟩
        have b507 := iv15_9 hS196.1 ta0 c506
        rw [c506] at p222
        obtain ⟨v508, c509⟩ : ∃ v, I188 a0 13 = v := ⟨_, rfl⟩
        rw [c509] at p223
        obtain ⟨v510, c511⟩ : ∃ v, I188 a0 14 = v := ⟨_, rfl⟩
        rw [c511] at p224
        replace hF := hF.neg (by omega)
        replace hP := hP.neg (by omega)
        replace hF := hF.pos (by omega)
        replace hP := hP.pos (by omega)
        refine tr_istore_n dX12_readCheese_35 (by decide) (by decide) ?_
        refine tr_aload_n dX12_readCheese_36 rfl ?_
        refine tr_ldcS dX12_readCheese_37 ld12_186 ?_
        refine q_callVi hE (M' := mX12_eatsWord) (as := [_]) dX12_readCheese_39 lk12_290 inX12_eatsWord seX12_eatsWord myX12_eatsWord (by decide) ⟨by decide, by decide⟩ rfl (kR15 hS196.1 ta0) (Nat.le_of_ble_eq_true rfl) rfl rfl (by decide) (by decide) (k_X12_eatsWord hS196.1 ta0 (by decide)) ?_
        rintro v516 cn' K' N' I512 R513 L514 ⟨rfl, rfl, rfl, rfl, g515, h517, w518, -⟩
        have hS519 := hS196.tr g515 (by decide +kernel) (by decide +kernel)
        have c520 : I512 a1 3 = v41 := (g515.cell ta1 (by decide +kernel)).trans c197
        have c521 : I512 a0 13 = v508 := (g515.cell ta0 (by decide +kernel)).trans c509
        have c522 : I512 a0 14 = v510 := (g515.cell ta0 (by decide +kernel)).trans c511
        have ov523 := w518.over (by rw [c506]; omega)
        obtain ⟨v524, c525⟩ : ∃ v, I512 a0 9 = v := ⟨_, rfl⟩
        have b526 := iv15_9 hS519.1 ta0 c525
        obtain ⟨v527, c528⟩ : ∃ v, I512 a0 13 = v := ⟨_, rfl⟩
        obtain ⟨v529, c530⟩ : ∃ v, I512 a0 14 = v := ⟨_, rfl⟩
        (try rw [c525] at ov523)
        (try rw [c528] at ov523)
        (try rw [c530] at ov523)
        (try rw [c506] at ov523)
        (try rw [c509] at ov523)
        (try rw [c511] at ov523)
        refine tr_istore dX12_readCheese_42 (by decide) (by decide) ?_
        refine tr_aload_n dX12_readCheese_44 rfl ?_
        refine q_getI dX12_readCheese_45 fl12_99 (kR15 hS519.1 ta0) c525 ?_
        refine q_iconst dX12_readCheese_48 (by decide) ?_
        intro v531 h532
        refine q_icmp_ne 53 dX12_readCheese_49 (by decide) (fun h533 => ?_) (fun h533 => ?_)
        · skip
          exfalso; omega
        · skip
          have eF := hF.eq
          have eP := hP.eq
          obtain ⟨v534, c535⟩ : ∃ v, I512 a0 10 = v := ⟨_, rfl⟩
          have b536 := iv15_10 hS519.1 ta0 c535
          obtain ⟨v537, c538⟩ : ∃ v, I512 a0 11 = v := ⟨_, rfl⟩
          obtain ⟨y539, c540⟩ : ∃ v, L514 a0 15 = v := ⟨_, rfl⟩
          obtain ⟨v541, c542⟩ : ∃ v, I512 a0 12 = v := ⟨_, rfl⟩
          obtain ⟨v543, c544⟩ : ∃ v, I512 a0 8 = v := ⟨_, rfl⟩
          have b545 := iv15_8 hS519.1 ta0 c544
          exact tr_vret hZ dX12_readCheese_52 rfl (by decide) (by decide) ⟨rfl, rfl, rfl, rfl, rfl, hS519, (Or.inr (⟨(by (try rw [w120]); first | done | omega), (by (try rw [w120]); (try rw [c525]); first | done | omega), (by (try rw [w120]); (try rw [c528]); first | done | omega), (by (try rw [w120]); (try rw [c530]); first | done | omega), trivial⟩)), trivial⟩
      · skip
        obtain ⟨v546, c547⟩ : ∃ v, I188 a0 9 = v := ⟨_, rfl⟩
        have b548 := iv15_9 hS196.1 ta0 c547
        rw [c547] at p230
        obtain ⟨v549, c550⟩ : ∃ v, I188 a0 13 = v := ⟨_, rfl⟩
        rw [c550] at p231
        obtain ⟨v551, c552⟩ : ∃ v, I188 a0 14 = v := ⟨_, rfl⟩
        rw [c552] at p232
        replace hF := hF.neg (by omega)
        replace hP := hP.neg (by omega)
        replace hF := hF.neg (by omega)
        replace hP := hP.neg (by omega)
        replace hF := hF.pos (by omega)
        replace hP := hP.pos (by omega)
        refine tr_istore_n dX12_readCheese_35 (by decide) (by decide) ?_
        refine tr_aload_n dX12_readCheese_36 rfl ?_
        refine tr_ldcS dX12_readCheese_37 ld12_186 ?_
        refine q_callVi hE (M' := mX12_eatsWord) (as := [_]) dX12_readCheese_39 lk12_290 inX12_eatsWord seX12_eatsWord myX12_eatsWord (by decide) ⟨by decide, by decide⟩ rfl (kR15 hS196.1 ta0) (Nat.le_of_ble_eq_true rfl) rfl rfl (by decide) (by decide) (k_X12_eatsWord hS196.1 ta0 (by decide)) ?_
        rintro v557 cn' K' N' I553 R554 L555 ⟨rfl, rfl, rfl, rfl, g556, h558, w559, -⟩
        have hS560 := hS196.tr g556 (by decide +kernel) (by decide +kernel)
        have c561 : I553 a1 3 = v41 := (g556.cell ta1 (by decide +kernel)).trans c197
        have c562 : I553 a0 13 = v549 := (g556.cell ta0 (by decide +kernel)).trans c550
        have c563 : I553 a0 14 = v551 := (g556.cell ta0 (by decide +kernel)).trans c552
        have ov564 := w559.over (by rw [c547]; omega)
        obtain ⟨v565, c566⟩ : ∃ v, I553 a0 9 = v := ⟨_, rfl⟩
        have b567 := iv15_9 hS560.1 ta0 c566
        obtain ⟨v568, c569⟩ : ∃ v, I553 a0 13 = v := ⟨_, rfl⟩
        obtain ⟨v570, c571⟩ : ∃ v, I553 a0 14 = v := ⟨_, rfl⟩
        (try rw [c566] at ov564)
        (try rw [c569] at ov564)
        (try rw [c571] at ov564)
        (try rw [c547] at ov564)
        (try rw [c550] at ov564)
        (try rw [c552] at ov564)
        refine tr_istore dX12_readCheese_42 (by decide) (by decide) ?_
        refine tr_aload_n dX12_readCheese_44 rfl ?_
        refine q_getI dX12_readCheese_45 fl12_99 (kR15 hS560.1 ta0) c566 ?_
        refine q_iconst dX12_readCheese_48 (by decide) ?_
        intro v572 h573
        refine q_icmp_ne 53 dX12_readCheese_49 (by decide) (fun h574 => ?_) (fun h574 => ?_)
        · skip
          exfalso; omega
        · skip
          have eF := hF.eq
          have eP := hP.eq
          obtain ⟨v575, c576⟩ : ∃ v, I553 a0 10 = v := ⟨_, rfl⟩
          have b577 := iv15_10 hS560.1 ta0 c576
          obtain ⟨v578, c579⟩ : ∃ v, I553 a0 11 = v := ⟨_, rfl⟩
          obtain ⟨y580, c581⟩ : ∃ v, L555 a0 15 = v := ⟨_, rfl⟩
          obtain ⟨v582, c583⟩ : ∃ v, I553 a0 12 = v := ⟨_, rfl⟩
          obtain ⟨v584, c585⟩ : ∃ v, I553 a0 8 = v := ⟨_, rfl⟩
          have b586 := iv15_8 hS560.1 ta0 c585
          exact tr_vret hZ dX12_readCheese_52 rfl (by decide) (by decide) ⟨rfl, rfl, rfl, rfl, rfl, hS560, (Or.inr (⟨(by (try rw [w120]); first | done | omega), (by (try rw [w120]); (try rw [c566]); first | done | omega), (by (try rw [w120]); (try rw [c569]); first | done | omega), (by (try rw [w120]); (try rw [c571]); first | done | omega), trivial⟩)), trivial⟩
    · skip
      obtain ⟨v587, c588⟩ : ∃ v, I130 a0 9 = v := ⟨_, rfl⟩
      have b589 := iv15_9 hS138.1 ta0 c588
      rw [c588] at p155
      obtain ⟨v590, c591⟩ : ∃ v, I130 a0 13 = v := ⟨_, rfl⟩
      rw [c591] at p156
      obtain ⟨v592, c593⟩ : ∃ v, I130 a0 14 = v := ⟨_, rfl⟩
      rw [c593] at p157
      replace hF := hF.pos (by omega)
      replace hP := hP.pos (by omega)
      refine tr_lstore_n dX12_readCheese_17 (by decide) (by decide) (by decide) ?_
      refine tr_aload_n dX12_readCheese_18 rfl ?_
      refine tr_ldcwS dX12_readCheese_19 ld12_289 ?_
      refine q_iconst dX12_readCheese_22 (by decide) ?_
      intro v594 h595
      refine tr_aload_n dX12_readCheese_23 rfl ?_
      refine tr_getR dX12_readCheese_24 fl12_188 (kR15 hS138.1 ta0) d2 ?_
      refine q_getI dX12_readCheese_27 fl12_263 (kR14 hS138.1 ta1) ((hS138.cell ta1 (by decide +kernel)).trans c34) ?_
      refine q_iconst dX12_readCheese_30 (by decide) ?_
      intro v596 h597
      refine q_isubE dX12_readCheese_31 (by intros; omega) ?_
      intro v598 h599
      refine q_callVi hE (M' := mX12_readPart) (as := [_, _, _]) dX12_readCheese_32 lk12_249 inX12_readPart seX12_readPart myX12_readPart (by decide) ⟨by decide, by decide⟩ rfl (kR15 hS138.1 ta0) (Nat.le_of_ble_eq_true rfl) rfl rfl (by decide) (by decide) (k_X12_readPart hS138.1 ta0 (by decide)) ?_
      rintro v604 cn' K' N' I600 R601 L602 ⟨rfl, rfl, rfl, rfl, g603, p605, w606, -⟩
      have hS607 := hS138.tr g603 (by decide +kernel) (by decide +kernel)
      have c608 : I600 a1 3 = v41 := (g603.cell ta1 (by decide +kernel)).trans c139
      have b609 : 0 ≤ v604.toInt ∧ v604.toInt ≤ 3 := by omega
      clear p605
      have ov610 := w606.over (by rw [c588]; omega)
      obtain ⟨v611, c612⟩ : ∃ v, I600 a0 9 = v := ⟨_, rfl⟩
      have b613 := iv15_9 hS607.1 ta0 c612
      obtain ⟨v614, c615⟩ : ∃ v, I600 a0 13 = v := ⟨_, rfl⟩
      obtain ⟨v616, c617⟩ : ∃ v, I600 a0 14 = v := ⟨_, rfl⟩
      (try rw [c612] at ov610)
      (try rw [c615] at ov610)
      (try rw [c617] at ov610)
      (try rw [c588] at ov610)
      (try rw [c591] at ov610)
      (try rw [c593] at ov610)
      refine tr_istore_n dX12_readCheese_35 (by decide) (by decide) ?_
      refine tr_aload_n dX12_readCheese_36 rfl ?_
      refine tr_ldcS dX12_readCheese_37 ld12_186 ?_
      refine q_callVi hE (M' := mX12_eatsWord) (as := [_]) dX12_readCheese_39 lk12_290 inX12_eatsWord seX12_eatsWord myX12_eatsWord (by decide) ⟨by decide, by decide⟩ rfl (kR15 hS607.1 ta0) (Nat.le_of_ble_eq_true rfl) rfl rfl (by decide) (by decide) (k_X12_eatsWord hS607.1 ta0 (by decide)) ?_
      rintro v622 cn' K' N' I618 R619 L620 ⟨rfl, rfl, rfl, rfl, g621, h623, w624, -⟩
      have hS625 := hS607.tr g621 (by decide +kernel) (by decide +kernel)
      have c626 : I618 a1 3 = v41 := (g621.cell ta1 (by decide +kernel)).trans c608
      have c627 : I618 a0 13 = v614 := (g621.cell ta0 (by decide +kernel)).trans c615
      have c628 : I618 a0 14 = v616 := (g621.cell ta0 (by decide +kernel)).trans c617
      have ov629 := w624.over (by rw [c612]; omega)
      obtain ⟨v630, c631⟩ : ∃ v, I618 a0 9 = v := ⟨_, rfl⟩
      have b632 := iv15_9 hS625.1 ta0 c631
      obtain ⟨v633, c634⟩ : ∃ v, I618 a0 13 = v := ⟨_, rfl⟩
      obtain ⟨v635, c636⟩ : ∃ v, I618 a0 14 = v := ⟨_, rfl⟩
      (try rw [c631] at ov629)
      (try rw [c634] at ov629)
      (try rw [c636] at ov629)
      (try rw [c612] at ov629)
      (try rw [c615] at ov629)
      (try rw [c617] at ov629)
      refine tr_istore dX12_readCheese_42 (by decide) (by decide) ?_
      refine tr_aload_n dX12_readCheese_44 rfl ?_
      refine q_getI dX12_readCheese_45 fl12_99 (kR15 hS625.1 ta0) c631 ?_
      refine q_iconst dX12_readCheese_48 (by decide) ?_
      intro v637 h638
      refine q_icmp_ne 53 dX12_readCheese_49 (by decide) (fun h639 => ?_) (fun h639 => ?_)
      · skip
        exfalso; omega
      · skip
        have eF := hF.eq
        have eP := hP.eq
        obtain ⟨v640, c641⟩ : ∃ v, I618 a0 10 = v := ⟨_, rfl⟩
        have b642 := iv15_10 hS625.1 ta0 c641
        obtain ⟨v643, c644⟩ : ∃ v, I618 a0 11 = v := ⟨_, rfl⟩
        obtain ⟨y645, c646⟩ : ∃ v, L620 a0 15 = v := ⟨_, rfl⟩
        obtain ⟨v647, c648⟩ : ∃ v, I618 a0 12 = v := ⟨_, rfl⟩
        obtain ⟨v649, c650⟩ : ∃ v, I618 a0 8 = v := ⟨_, rfl⟩
        have b651 := iv15_8 hS625.1 ta0 c650
        exact tr_vret hZ dX12_readCheese_52 rfl (by decide) (by decide) ⟨rfl, rfl, rfl, rfl, rfl, hS625, (Or.inr (⟨(by (try rw [w120]); first | done | omega), (by (try rw [w120]); (try rw [c631]); first | done | omega), (by (try rw [w120]); (try rw [c634]); first | done | omega), (by (try rw [w120]); (try rw [c636]); first | done | omega), trivial⟩)), trivial⟩
    · skip
      obtain ⟨v652, c653⟩ : ∃ v, I130 a0 9 = v := ⟨_, rfl⟩
      have b654 := iv15_9 hS138.1 ta0 c653
      rw [c653] at p160
      obtain ⟨v655, c656⟩ : ∃ v, I130 a0 13 = v := ⟨_, rfl⟩
      rw [c656] at p161
      obtain ⟨v657, c658⟩ : ∃ v, I130 a0 14 = v := ⟨_, rfl⟩
      rw [c658] at p162
      replace hF := hF.neg (by omega)
      replace hP := hP.neg (by omega)
      replace hF := hF.pos (by omega)
      replace hP := hP.pos (by omega)
      refine tr_lstore_n dX12_readCheese_17 (by decide) (by decide) (by decide) ?_
      refine tr_aload_n dX12_readCheese_18 rfl ?_
      refine tr_ldcwS dX12_readCheese_19 ld12_289 ?_
      refine q_iconst dX12_readCheese_22 (by decide) ?_
      intro v659 h660
      refine tr_aload_n dX12_readCheese_23 rfl ?_
      refine tr_getR dX12_readCheese_24 fl12_188 (kR15 hS138.1 ta0) d2 ?_
      refine q_getI dX12_readCheese_27 fl12_263 (kR14 hS138.1 ta1) ((hS138.cell ta1 (by decide +kernel)).trans c34) ?_
      refine q_iconst dX12_readCheese_30 (by decide) ?_
      intro v661 h662
      refine q_isubE dX12_readCheese_31 (by intros; omega) ?_
      intro v663 h664
      refine q_callVi hE (M' := mX12_readPart) (as := [_, _, _]) dX12_readCheese_32 lk12_249 inX12_readPart seX12_readPart myX12_readPart (by decide) ⟨by decide, by decide⟩ rfl (kR15 hS138.1 ta0) (Nat.le_of_ble_eq_true rfl) rfl rfl (by decide) (by decide) (k_X12_readPart hS138.1 ta0 (by decide)) ?_
      rintro v669 cn' K' N' I665 R666 L667 ⟨rfl, rfl, rfl, rfl, g668, p670, w671, -⟩
      have hS672 := hS138.tr g668 (by decide +kernel) (by decide +kernel)
      have c673 : I665 a1 3 = v41 := (g668.cell ta1 (by decide +kernel)).trans c139
      have b674 : 0 ≤ v669.toInt ∧ v669.toInt ≤ 3 := by omega
      clear p670
      have ov675 := w671.over (by rw [c653]; omega)
      obtain ⟨v676, c677⟩ : ∃ v, I665 a0 9 = v := ⟨_, rfl⟩
      have b678 := iv15_9 hS672.1 ta0 c677
      obtain ⟨v679, c680⟩ : ∃ v, I665 a0 13 = v := ⟨_, rfl⟩
      obtain ⟨v681, c682⟩ : ∃ v, I665 a0 14 = v := ⟨_, rfl⟩
      (try rw [c677] at ov675)
      (try rw [c680] at ov675)
      (try rw [c682] at ov675)
      (try rw [c653] at ov675)
      (try rw [c656] at ov675)
      (try rw [c658] at ov675)
      refine tr_istore_n dX12_readCheese_35 (by decide) (by decide) ?_
      refine tr_aload_n dX12_readCheese_36 rfl ?_
      refine tr_ldcS dX12_readCheese_37 ld12_186 ?_
      refine q_callVi hE (M' := mX12_eatsWord) (as := [_]) dX12_readCheese_39 lk12_290 inX12_eatsWord seX12_eatsWord myX12_eatsWord (by decide) ⟨by decide, by decide⟩ rfl (kR15 hS672.1 ta0) (Nat.le_of_ble_eq_true rfl) rfl rfl (by decide) (by decide) (k_X12_eatsWord hS672.1 ta0 (by decide)) ?_
      rintro v687 cn' K' N' I683 R684 L685 ⟨rfl, rfl, rfl, rfl, g686, h688, w689, -⟩
      have hS690 := hS672.tr g686 (by decide +kernel) (by decide +kernel)
      have c691 : I683 a1 3 = v41 := (g686.cell ta1 (by decide +kernel)).trans c673
      have c692 : I683 a0 13 = v679 := (g686.cell ta0 (by decide +kernel)).trans c680
      have c693 : I683 a0 14 = v681 := (g686.cell ta0 (by decide +kernel)).trans c682
      have ov694 := w689.over (by rw [c677]; omega)
      obtain ⟨v695, c696⟩ : ∃ v, I683 a0 9 = v := ⟨_, rfl⟩
      have b697 := iv15_9 hS690.1 ta0 c696
      obtain ⟨v698, c699⟩ : ∃ v, I683 a0 13 = v := ⟨_, rfl⟩
      obtain ⟨v700, c701⟩ : ∃ v, I683 a0 14 = v := ⟨_, rfl⟩
      (try rw [c696] at ov694)
      (try rw [c699] at ov694)
      (try rw [c701] at ov694)
      (try rw [c677] at ov694)
      (try rw [c680] at ov694)
      (try rw [c682] at ov694)
      refine tr_istore dX12_readCheese_42 (by decide) (by decide) ?_
      refine tr_aload_n dX12_readCheese_44 rfl ?_
      refine q_getI dX12_readCheese_45 fl12_99 (kR15 hS690.1 ta0) c696 ?_
      refine q_iconst dX12_readCheese_48 (by decide) ?_
      intro v702 h703
      refine q_icmp_ne 53 dX12_readCheese_49 (by decide) (fun h704 => ?_) (fun h704 => ?_)
      · skip
        exfalso; omega
      · skip
        have eF := hF.eq
        have eP := hP.eq
        obtain ⟨v705, c706⟩ : ∃ v, I683 a0 10 = v := ⟨_, rfl⟩
        have b707 := iv15_10 hS690.1 ta0 c706
        obtain ⟨v708, c709⟩ : ∃ v, I683 a0 11 = v := ⟨_, rfl⟩
        obtain ⟨y710, c711⟩ : ∃ v, L685 a0 15 = v := ⟨_, rfl⟩
        obtain ⟨v712, c713⟩ : ∃ v, I683 a0 12 = v := ⟨_, rfl⟩
        obtain ⟨v714, c715⟩ : ∃ v, I683 a0 8 = v := ⟨_, rfl⟩
        have b716 := iv15_8 hS690.1 ta0 c715
        exact tr_vret hZ dX12_readCheese_52 rfl (by decide) (by decide) ⟨rfl, rfl, rfl, rfl, rfl, hS690, (Or.inr (⟨(by (try rw [w120]); first | done | omega), (by (try rw [w120]); (try rw [c696]); first | done | omega), (by (try rw [w120]); (try rw [c699]); first | done | omega), (by (try rw [w120]); (try rw [c701]); first | done | omega), trivial⟩)), trivial⟩
  · skip
    obtain ⟨v717, c718⟩ : ∃ v, I68 a0 9 = v := ⟨_, rfl⟩
    have b719 := iv15_9 hS76.1 ta0 c718
    rw [c718] at p90
    obtain ⟨v720, c721⟩ : ∃ v, I68 a0 13 = v := ⟨_, rfl⟩
    rw [c721] at p91
    obtain ⟨v722, c723⟩ : ∃ v, I68 a0 14 = v := ⟨_, rfl⟩
    rw [c723] at p92
    have p724 := p61
    unfold Q7M at p724
    replace hF := hF.pos (by omega)
    replace hP := hP.pos (by omega)
    clear p724
    refine tr_aload_n dX12_readCheese_13 rfl ?_
    refine q_callVl hE (M' := mX12_readFresh) (as := []) dX12_readCheese_14 lk12_285 inX12_readFresh seX12_readFresh myX12_readFresh (by decide) ⟨by decide, by decide⟩ rfl (kR15 hS76.1 ta0) (Nat.le_of_ble_eq_true rfl) rfl rfl (by decide) (by decide) (k_X12_readFresh hS76.1 ta0 ⟨_, d2⟩) ?_
    rintro y729 cn' K' N' I725 R726 L727 ⟨rfl, rfl, rfl, rfl, g728, w730, -⟩
    have hS731 := hS76.tr g728 (by decide +kernel) (by decide +kernel)
    have c732 : I725 a1 3 = v41 := (g728.cell ta1 (by decide +kernel)).trans c77
    have ov733 := w730.over (by rw [c718]; omega)
    obtain ⟨v734, c735⟩ : ∃ v, I725 a0 9 = v := ⟨_, rfl⟩
    have b736 := iv15_9 hS731.1 ta0 c735
    obtain ⟨v737, c738⟩ : ∃ v, I725 a0 13 = v := ⟨_, rfl⟩
    obtain ⟨v739, c740⟩ : ∃ v, I725 a0 14 = v := ⟨_, rfl⟩
    (try rw [c735] at ov733)
    (try rw [c738] at ov733)
    (try rw [c740] at ov733)
    (try rw [c718] at ov733)
    (try rw [c721] at ov733)
    (try rw [c723] at ov733)
    refine tr_lstore_n dX12_readCheese_17 (by decide) (by decide) (by decide) ?_
    refine tr_aload_n dX12_readCheese_18 rfl ?_
    refine tr_ldcwS dX12_readCheese_19 ld12_289 ?_
    refine q_iconst dX12_readCheese_22 (by decide) ?_
    intro v741 h742
    refine tr_aload_n dX12_readCheese_23 rfl ?_
    refine tr_getR dX12_readCheese_24 fl12_188 (kR15 hS731.1 ta0) d2 ?_
    refine q_getI dX12_readCheese_27 fl12_263 (kR14 hS731.1 ta1) ((hS731.cell ta1 (by decide +kernel)).trans c34) ?_
    refine q_iconst dX12_readCheese_30 (by decide) ?_
    intro v743 h744
    refine q_isubE dX12_readCheese_31 (by intros; omega) ?_
    intro v745 h746
    refine q_callVi hE (M' := mX12_readPart) (as := [_, _, _]) dX12_readCheese_32 lk12_249 inX12_readPart seX12_readPart myX12_readPart (by decide) ⟨by decide, by decide⟩ rfl (kR15 hS731.1 ta0) (Nat.le_of_ble_eq_true rfl) rfl rfl (by decide) (by decide) (k_X12_readPart hS731.1 ta0 (by decide)) ?_
    rintro v751 cn' K' N' I747 R748 L749 ⟨rfl, rfl, rfl, rfl, g750, p752, w753, -⟩
    have hS754 := hS731.tr g750 (by decide +kernel) (by decide +kernel)
    have c755 : I747 a1 3 = v41 := (g750.cell ta1 (by decide +kernel)).trans c732
    have b756 : 0 ≤ v751.toInt ∧ v751.toInt ≤ 3 := by omega
    clear p752
    have ov757 := w753.over (by rw [c735]; omega)
    obtain ⟨v758, c759⟩ : ∃ v, I747 a0 9 = v := ⟨_, rfl⟩
    have b760 := iv15_9 hS754.1 ta0 c759
    obtain ⟨v761, c762⟩ : ∃ v, I747 a0 13 = v := ⟨_, rfl⟩
    obtain ⟨v763, c764⟩ : ∃ v, I747 a0 14 = v := ⟨_, rfl⟩
    (try rw [c759] at ov757)
    (try rw [c762] at ov757)
    (try rw [c764] at ov757)
    (try rw [c735] at ov757)
    (try rw [c738] at ov757)
    (try rw [c740] at ov757)
    refine tr_istore_n dX12_readCheese_35 (by decide) (by decide) ?_
    refine tr_aload_n dX12_readCheese_36 rfl ?_
    refine tr_ldcS dX12_readCheese_37 ld12_186 ?_
    refine q_callVi hE (M' := mX12_eatsWord) (as := [_]) dX12_readCheese_39 lk12_290 inX12_eatsWord seX12_eatsWord myX12_eatsWord (by decide) ⟨by decide, by decide⟩ rfl (kR15 hS754.1 ta0) (Nat.le_of_ble_eq_true rfl) rfl rfl (by decide) (by decide) (k_X12_eatsWord hS754.1 ta0 (by decide)) ?_
    rintro v769 cn' K' N' I765 R766 L767 ⟨rfl, rfl, rfl, rfl, g768, h770, w771, -⟩
    have hS772 := hS754.tr g768 (by decide +kernel) (by decide +kernel)
    have c773 : I765 a1 3 = v41 := (g768.cell ta1 (by decide +kernel)).trans c755
    have c774 : I765 a0 13 = v761 := (g768.cell ta0 (by decide +kernel)).trans c762
    have c775 : I765 a0 14 = v763 := (g768.cell ta0 (by decide +kernel)).trans c764
    have ov776 := w771.over (by rw [c759]; omega)
    obtain ⟨v777, c778⟩ : ∃ v, I765 a0 9 = v := ⟨_, rfl⟩
    have b779 := iv15_9 hS772.1 ta0 c778
    obtain ⟨v780, c781⟩ : ∃ v, I765 a0 13 = v := ⟨_, rfl⟩
    obtain ⟨v782, c783⟩ : ∃ v, I765 a0 14 = v := ⟨_, rfl⟩
    (try rw [c778] at ov776)
    (try rw [c781] at ov776)
    (try rw [c783] at ov776)
    (try rw [c759] at ov776)
    (try rw [c762] at ov776)
    (try rw [c764] at ov776)
    refine tr_istore dX12_readCheese_42 (by decide) (by decide) ?_
    refine tr_aload_n dX12_readCheese_44 rfl ?_
    refine q_getI dX12_readCheese_45 fl12_99 (kR15 hS772.1 ta0) c778 ?_
    refine q_iconst dX12_readCheese_48 (by decide) ?_
    intro v784 h785
    refine q_icmp_ne 53 dX12_readCheese_49 (by decide) (fun h786 => ?_) (fun h786 => ?_)
    · skip
      exfalso; omega
    · skip
      have eF := hF.eq
      have eP := hP.eq
      obtain ⟨v787, c788⟩ : ∃ v, I765 a0 10 = v := ⟨_, rfl⟩
      have b789 := iv15_10 hS772.1 ta0 c788
      obtain ⟨v790, c791⟩ : ∃ v, I765 a0 11 = v := ⟨_, rfl⟩
      obtain ⟨y792, c793⟩ : ∃ v, L767 a0 15 = v := ⟨_, rfl⟩
      obtain ⟨v794, c795⟩ : ∃ v, I765 a0 12 = v := ⟨_, rfl⟩
      obtain ⟨v796, c797⟩ : ∃ v, I765 a0 8 = v := ⟨_, rfl⟩
      have b798 := iv15_8 hS772.1 ta0 c797
      exact tr_vret hZ dX12_readCheese_52 rfl (by decide) (by decide) ⟨rfl, rfl, rfl, rfl, rfl, hS772, (Or.inr (⟨(by first | done | omega), (by (try rw [c778]); first | done | omega), (by (try rw [c781]); first | done | omega), (by (try rw [c783]); first | done | omega), trivial⟩)), trivial⟩
  · skip
    obtain ⟨v799, c800⟩ : ∃ v, I68 a0 9 = v := ⟨_, rfl⟩
    have b801 := iv15_9 hS76.1 ta0 c800
    rw [c800] at p95
    obtain ⟨v802, c803⟩ : ∃ v, I68 a0 13 = v := ⟨_, rfl⟩
    rw [c803] at p96
    obtain ⟨v804, c805⟩ : ∃ v, I68 a0 14 = v := ⟨_, rfl⟩
    rw [c805] at p97
    have p806 := p61
    unfold Q7M at p806
    replace hF := hF.neg (by omega)
    replace hP := hP.neg (by omega)
    replace hF := hF.pos (by omega)
    replace hP := hP.pos (by omega)
    clear p806
    refine tr_aload_n dX12_readCheese_13 rfl ?_
    refine q_callVl hE (M' := mX12_readFresh) (as := []) dX12_readCheese_14 lk12_285 inX12_readFresh seX12_readFresh myX12_readFresh (by decide) ⟨by decide, by decide⟩ rfl (kR15 hS76.1 ta0) (Nat.le_of_ble_eq_true rfl) rfl rfl (by decide) (by decide) (k_X12_readFresh hS76.1 ta0 ⟨_, d2⟩) ?_
    rintro y811 cn' K' N' I807 R808 L809 ⟨rfl, rfl, rfl, rfl, g810, w812, -⟩
    have hS813 := hS76.tr g810 (by decide +kernel) (by decide +kernel)
    have c814 : I807 a1 3 = v41 := (g810.cell ta1 (by decide +kernel)).trans c77
    have ov815 := w812.over (by rw [c800]; omega)
    obtain ⟨v816, c817⟩ : ∃ v, I807 a0 9 = v := ⟨_, rfl⟩
    have b818 := iv15_9 hS813.1 ta0 c817
    obtain ⟨v819, c820⟩ : ∃ v, I807 a0 13 = v := ⟨_, rfl⟩
    obtain ⟨v821, c822⟩ : ∃ v, I807 a0 14 = v := ⟨_, rfl⟩
    (try rw [c817] at ov815)
    (try rw [c820] at ov815)
    (try rw [c822] at ov815)
    (try rw [c800] at ov815)
    (try rw [c803] at ov815)
    (try rw [c805] at ov815)
    refine tr_lstore_n dX12_readCheese_17 (by decide) (by decide) (by decide) ?_
    refine tr_aload_n dX12_readCheese_18 rfl ?_
    refine tr_ldcwS dX12_readCheese_19 ld12_289 ?_
    refine q_iconst dX12_readCheese_22 (by decide) ?_
    intro v823 h824
    refine tr_aload_n dX12_readCheese_23 rfl ?_
    refine tr_getR dX12_readCheese_24 fl12_188 (kR15 hS813.1 ta0) d2 ?_
    refine q_getI dX12_readCheese_27 fl12_263 (kR14 hS813.1 ta1) ((hS813.cell ta1 (by decide +kernel)).trans c34) ?_
    refine q_iconst dX12_readCheese_30 (by decide) ?_
    intro v825 h826
    refine q_isubE dX12_readCheese_31 (by intros; omega) ?_
    intro v827 h828
    refine q_callVi hE (M' := mX12_readPart) (as := [_, _, _]) dX12_readCheese_32 lk12_249 inX12_readPart seX12_readPart myX12_readPart (by decide) ⟨by decide, by decide⟩ rfl (kR15 hS813.1 ta0) (Nat.le_of_ble_eq_true rfl) rfl rfl (by decide) (by decide) (k_X12_readPart hS813.1 ta0 (by decide)) ?_
    rintro v833 cn' K' N' I829 R830 L831 ⟨rfl, rfl, rfl, rfl, g832, p834, w835, -⟩
    have hS836 := hS813.tr g832 (by decide +kernel) (by decide +kernel)
    have c837 : I829 a1 3 = v41 := (g832.cell ta1 (by decide +kernel)).trans c814
    have b838 : 0 ≤ v833.toInt ∧ v833.toInt ≤ 3 := by omega
    clear p834
    have ov839 := w835.over (by rw [c817]; omega)
    obtain ⟨v840, c841⟩ : ∃ v, I829 a0 9 = v := ⟨_, rfl⟩
    have b842 := iv15_9 hS836.1 ta0 c841
    obtain ⟨v843, c844⟩ : ∃ v, I829 a0 13 = v := ⟨_, rfl⟩
    obtain ⟨v845, c846⟩ : ∃ v, I829 a0 14 = v := ⟨_, rfl⟩
    (try rw [c841] at ov839)
    (try rw [c844] at ov839)
    (try rw [c846] at ov839)
    (try rw [c817] at ov839)
    (try rw [c820] at ov839)
    (try rw [c822] at ov839)
    refine tr_istore_n dX12_readCheese_35 (by decide) (by decide) ?_
    refine tr_aload_n dX12_readCheese_36 rfl ?_
    refine tr_ldcS dX12_readCheese_37 ld12_186 ?_
    refine q_callVi hE (M' := mX12_eatsWord) (as := [_]) dX12_readCheese_39 lk12_290 inX12_eatsWord seX12_eatsWord myX12_eatsWord (by decide) ⟨by decide, by decide⟩ rfl (kR15 hS836.1 ta0) (Nat.le_of_ble_eq_true rfl) rfl rfl (by decide) (by decide) (k_X12_eatsWord hS836.1 ta0 (by decide)) ?_
    rintro v851 cn' K' N' I847 R848 L849 ⟨rfl, rfl, rfl, rfl, g850, h852, w853, -⟩
    have hS854 := hS836.tr g850 (by decide +kernel) (by decide +kernel)
    have c855 : I847 a1 3 = v41 := (g850.cell ta1 (by decide +kernel)).trans c837
    have c856 : I847 a0 13 = v843 := (g850.cell ta0 (by decide +kernel)).trans c844
    have c857 : I847 a0 14 = v845 := (g850.cell ta0 (by decide +kernel)).trans c846
    have ov858 := w853.over (by rw [c841]; omega)
    obtain ⟨v859, c860⟩ : ∃ v, I847 a0 9 = v := ⟨_, rfl⟩
    have b861 := iv15_9 hS854.1 ta0 c860
    obtain ⟨v862, c863⟩ : ∃ v, I847 a0 13 = v := ⟨_, rfl⟩
    obtain ⟨v864, c865⟩ : ∃ v, I847 a0 14 = v := ⟨_, rfl⟩
    (try rw [c860] at ov858)
    (try rw [c863] at ov858)
    (try rw [c865] at ov858)
    (try rw [c841] at ov858)
    (try rw [c844] at ov858)
    (try rw [c846] at ov858)
    refine tr_istore dX12_readCheese_42 (by decide) (by decide) ?_
    refine tr_aload_n dX12_readCheese_44 rfl ?_
    refine q_getI dX12_readCheese_45 fl12_99 (kR15 hS854.1 ta0) c860 ?_
    refine q_iconst dX12_readCheese_48 (by decide) ?_
    intro v866 h867
    refine q_icmp_ne 53 dX12_readCheese_49 (by decide) (fun h868 => ?_) (fun h868 => ?_)
    · skip
      exfalso; omega
    · skip
      have eF := hF.eq
      have eP := hP.eq
      obtain ⟨v869, c870⟩ : ∃ v, I847 a0 10 = v := ⟨_, rfl⟩
      have b871 := iv15_10 hS854.1 ta0 c870
      obtain ⟨v872, c873⟩ : ∃ v, I847 a0 11 = v := ⟨_, rfl⟩
      obtain ⟨y874, c875⟩ : ∃ v, L849 a0 15 = v := ⟨_, rfl⟩
      obtain ⟨v876, c877⟩ : ∃ v, I847 a0 12 = v := ⟨_, rfl⟩
      obtain ⟨v878, c879⟩ : ∃ v, I847 a0 8 = v := ⟨_, rfl⟩
      have b880 := iv15_8 hS854.1 ta0 c879
      exact tr_vret hZ dX12_readCheese_52 rfl (by decide) (by decide) ⟨rfl, rfl, rfl, rfl, rfl, hS854, (Or.inr (⟨(by first | done | omega), (by (try rw [c860]); first | done | omega), (by (try rw [c863]); first | done | omega), (by (try rw [c865]); first | done | omega), trivial⟩)), trivial⟩
