def wik_X12_readEvent : List Nat := [898, 968, 969, 970, 971, 972, 973, 974, 3519, 3583, 3647, 3711]
def wrk_X12_readEvent : List Nat := []
def wlk_X12_readEvent : List Nat := [975]
set_option maxHeartbeats 4000000 in
theorem fk_X12_readEvent {l : Launch} {T : Nat → Nat} {cn : Nat} {K N : Nat → Nat} {I0 : cz_I} {R0 : cz_R} {L0 : cz_L} (hW0 : Wf T cn K N I0 R0 0) (gB : cz_B) (gs : Int) (gQ : Nat → Int) {a0 : Nat} (ta0 : T a0 = 15) {x1 : Int32} (hx1 : 0 ≤ x1.toInt ∧ x1.toInt ≤ 4) (hT : ∀ t, R0 a0 5 = some t → Tx I0 t gB) (hN : ∀ b, R0 a0 4 = some b → NmM I0 R0 L0 b gQ) (pre0 : (I0 a0 9).toInt = (tkM gB gs)) (pre1 : (I0 a0 9).toInt ≤ 4) (pre2 : (I0 a0 10).toInt = (tkS gB gs)) (pre3 : (I0 a0 11).toInt = (tkG gB gs)) (pre4 : (AtW ((tkK gB gs)) ((L0 a0 15).toInt) ((tkW gB gs)))) (pre5 : (AtV ((tkK gB gs)) ((I0 a0 12).toInt) ((tkV gB gs)))) (pre6 : (AtN ((tkK gB gs)) ((I0 a0 8).toInt) ((tkN gB gs)))) (pre7 : (I0 a0 7).toInt = (gB.2)) (pre8 : ∀ b1, R0 a0 4 = some b1 → (I0 b1 0).toInt = (gQ 0)) (pre9 : ∀ b1, R0 a0 4 = some b1 → (I0 b1 1).toInt = (gQ 1)) (pre10 : ∀ b1, R0 a0 4 = some b1 → (I0 b1 2).toInt = (gQ 2)) (pre11 : ∀ b1, R0 a0 4 = some b1 → (I0 b1 3).toInt = (gQ 3)) (pre12 : ∀ b1, R0 a0 4 = some b1 → (I0 b1 4).toInt = (gQ 4)) (pre13 : ∀ b1, R0 a0 4 = some b1 → (I0 b1 5).toInt = (gQ 5)) (pre14 : ∀ b1, R0 a0 4 = some b1 → (I0 b1 6).toInt = (gQ 6)) (pre15 : ∀ b1, R0 a0 4 = some b1 → (I0 b1 9).toInt = (gQ 8)) (pre16 : (Q7M ((gQ 0)) ((gQ 7)))) (pre17 : (tkK gB gs) = 1) (pre18 : (srt gB gs) = x1.toInt) (nn4 : ∃ b, R0 a0 4 = some b) : ConE l mX12_readEvent [.ref a0, .int x1] cn K N I0 R0 L0 (ca_v (fun cn' K' N' I' R' L' => cn = cn' ∧ K = K' ∧ N = N' ∧ R0 = R' ∧ St T cn K N 0 wik_X12_readEvent wrk_X12_readEvent I0 R0 I' R0 ∧ (∀ b, R0 a0 4 = some b → FrM R0 b T I0 I') ∧ (∀ dr, R0 a0 4 = some dr → FrO 14 dr T I0 I') ∧ ((((lnF gB gQ gs) = 0) ∧ (∀ b1, R0 a0 4 = some b1 → (I' b1 0).toInt = (lnQ gB gQ gs 0)) ∧ (∀ b1, R0 a0 4 = some b1 → (I' b1 1).toInt = (lnQ gB gQ gs 1)) ∧ (∀ b1, R0 a0 4 = some b1 → (I' b1 2).toInt = (lnQ gB gQ gs 2)) ∧ (∀ b1, R0 a0 4 = some b1 → (I' b1 3).toInt = (lnQ gB gQ gs 3)) ∧ (∀ b1, R0 a0 4 = some b1 → (I' b1 4).toInt = (lnQ gB gQ gs 4)) ∧ (∀ b1, R0 a0 4 = some b1 → (I' b1 5).toInt = (lnQ gB gQ gs 5)) ∧ (∀ b1, R0 a0 4 = some b1 → (I' b1 6).toInt = (lnQ gB gQ gs 6)) ∧ (∀ b1, R0 a0 4 = some b1 → (I' b1 9).toInt = (lnQ gB gQ gs 8)) ∧ ((I' a0 13).toInt = (I0 a0 13).toInt) ∧ ((I' a0 9).toInt = (tkM gB (lnS gB gQ gs))) ∧ ((I' a0 9).toInt ≤ 4) ∧ ((I' a0 10).toInt = (tkS gB (lnS gB gQ gs))) ∧ ((I' a0 11).toInt = (tkG gB (lnS gB gQ gs))) ∧ ((AtW ((tkK gB (lnS gB gQ gs))) ((L' a0 15).toInt) ((tkW gB (lnS gB gQ gs))))) ∧ ((AtV ((tkK gB (lnS gB gQ gs))) ((I' a0 12).toInt) ((tkV gB (lnS gB gQ gs))))) ∧ ((AtN ((tkK gB (lnS gB gQ gs))) ((I' a0 8).toInt) ((tkN gB (lnS gB gQ gs))))) ∧ LgS T wlk_X12_readEvent L0 L' ∧ (∀ b, R0 a0 4 = some b → NmM I' R0 L' b (lnQ gB gQ gs)) ∧ (∀ E b, R0 a0 4 = some b → AlM I0 R0 b gQ E → AlM I' R0 b (lnQ gB gQ gs) (lnE gB gQ gs E)) ∧ True) ∨ (((lnF gB gQ gs) ≠ 0) ∧ ((I' a0 9).toInt = 5) ∧ ((I' a0 13).toInt = (lnF gB gQ gs)) ∧ ((I' a0 14).toInt = (lnP gB gQ gs)) ∧ True)) ∧ True)) := by
  refine ConE.of (by decide +kernel) rfl (Nat.le_of_ble_eq_true rfl) rfl (fun X hX hZ hE => ?_)
  subst hX
  have hS0 : St T cn K N 0 wik_X12_readEvent wrk_X12_readEvent I0 R0 I0 R0 := St.rf0 hW0
  have hL0 : LgS T wlk_X12_readEvent L0 L0 := LgS.rf0
  obtain ⟨a1, d2⟩ := nn4
  have ta1 : T a1 = 14 := hW0.rsN ta0 rfl d2
  obtain ⟨v3, c4⟩ : ∃ v, I0 a0 9 = v := ⟨_, rfl⟩
  have b5 := iv15_9 hS0.1 ta0 c4
  have p6 := pre0
  rw [c4] at p6
  have p7 := pre1
  rw [c4] at p7
  obtain ⟨v8, c9⟩ : ∃ v, I0 a0 10 = v := ⟨_, rfl⟩
  have b10 := iv15_10 hS0.1 ta0 c9
  have p11 := pre2
  rw [c9] at p11
  obtain ⟨v12, c13⟩ : ∃ v, I0 a0 11 = v := ⟨_, rfl⟩
  have p14 := pre3
  rw [c13] at p14
  obtain ⟨y15, c16⟩ : ∃ v, L0 a0 15 = v := ⟨_, rfl⟩
  have p17 := pre4
  rw [c16] at p17
  obtain ⟨v18, c19⟩ : ∃ v, I0 a0 12 = v := ⟨_, rfl⟩
  have p20 := pre5
  rw [c19] at p20
  obtain ⟨v21, c22⟩ : ∃ v, I0 a0 8 = v := ⟨_, rfl⟩
  have b23 := iv15_8 hS0.1 ta0 c22
  have p24 := pre6
  rw [c22] at p24
  obtain ⟨v25, c26⟩ : ∃ v, I0 a0 7 = v := ⟨_, rfl⟩
  have b27 := iv15_7 hW0 ta0 c26
  have p28 := pre7
  rw [c26] at p28
  obtain ⟨v29, c30⟩ : ∃ v, I0 a1 0 = v := ⟨_, rfl⟩
  have b31 := iv14_0 hW0 ta1 c30
  have p32 := pre8 _ d2
  rw [c30] at p32
  obtain ⟨v33, c34⟩ : ∃ v, I0 a1 1 = v := ⟨_, rfl⟩
  have b35 := iv14_1 hW0 ta1 c34
  have p36 := pre9 _ d2
  rw [c34] at p36
  obtain ⟨v37, c38⟩ : ∃ v, I0 a1 2 = v := ⟨_, rfl⟩
  have b39 := iv14_2 hS0.1 ta1 c38
  have p40 := pre10 _ d2
  rw [c38] at p40
  obtain ⟨v41, c42⟩ : ∃ v, I0 a1 3 = v := ⟨_, rfl⟩
  have b43 := iv14_3 hW0 ta1 c42
  have p44 := pre11 _ d2
  rw [c42] at p44
  obtain ⟨v45, c46⟩ : ∃ v, I0 a1 4 = v := ⟨_, rfl⟩
  have b47 := iv14_4 hW0 ta1 c46
  have p48 := pre12 _ d2
  rw [c46] at p48
  obtain ⟨v49, c50⟩ : ∃ v, I0 a1 5 = v := ⟨_, rfl⟩
  have b51 := iv14_5 hW0 ta1 c50
  have p52 := pre13 _ d2
  rw [c50] at p52
  obtain ⟨v53, c54⟩ : ∃ v, I0 a1 6 = v := ⟨_, rfl⟩
  have b55 := iv14_6 hW0 ta1 c54
  have p56 := pre14 _ d2
  rw [c54] at p56
  obtain ⟨v57, c58⟩ : ∃ v, I0 a1 9 = v := ⟨_, rfl⟩
  have b59 := iv14_9 hW0 ta1 c58
  have p60 := pre15 _ d2
  rw [c58] at p60
  have p61 := pre16
  have p62 := pre17
  have p63 := pre18
  obtain ⟨v64, c65⟩ : ∃ v, I0 a0 13 = v := ⟨_, rfl⟩
  have hM0 := hN _ d2
  have hO0 : FrO 14 a1 T I0 I0 := FrO.rf
  obtain ⟨a66, d67, ta66⟩ := rf14_11 hW0 ta1
  obtain ⟨a68, d69, ta68⟩ := rf14_12 hW0 ta1
  obtain ⟨a70, d71, ta70⟩ := rf14_13 hW0 ta1
  obtain ⟨a72, d73, ta72⟩ := rf14_14 hW0 ta1
  have hF := lnF_ch gB gQ gs
  have hP := lnP_ch gB gQ gs
  replace hF := hF.neg (by omega)
  replace hP := hP.neg (by omega)
  replace hF := hF.neg (by omega)
  replace hP := hP.neg (by omega)
  have kd74 : x1.toInt = 0 ∨ x1.toInt = 1 ∨ x1.toInt = 2 ∨ x1.toInt = 3 ∨ x1.toInt = 4 := by omega
  rcases kd74 with kd74 | kd74 | kd74 | kd74 | kd74
  · skip
    refine tr_aload_n dX12_readEvent_0 rfl ?_
    refine tr_aload_n dX12_readEvent_1 rfl ?_
    refine tr_getR dX12_readEvent_2 fl12_188 (kR15 hS0.1 ta0) d2 ?_
    refine q_getI dX12_readEvent_5 fl12_265 (kR14 hS0.1 ta1) c38 ?_
    refine q_bipush dX12_readEvent_8 (by decide +kernel) ?_
    intro v75 h76
    refine q_callVv hE (M' := mX12_begins) (as := [_, _]) dX12_readEvent_10 lk12_268 inX12_begins seX12_begins myX12_begins (by decide) ⟨by decide, by decide⟩ rfl (kR15 hS0.1 ta0) (Nat.le_of_ble_eq_true rfl) rfl rfl (by decide) (by decide) (fk_X12_begins hS0.1 (gB) (gs) (gQ) ta0 (TxA.kp hT hS0 ta0 rfl rfl rfl (by decide +kernel) (by decide +kernel)) (by (try rw [c4]); first | done | with_reducible assumption | omega) (by (try rw [c4]); first | done | with_reducible assumption | omega) (by (try rw [c9]); first | done | with_reducible assumption | omega) (by (try rw [c13]); first | done | with_reducible assumption | omega) (by (try rw [c16]); first | done | assumption) (by (try rw [c19]); first | done | assumption) (by (try rw [c22]); first | done | assumption) (by (try rw [c26]); first | done | with_reducible assumption | omega) (fun q0 z0 => by obtain rfl := Option.some.inj ((d2).symm.trans z0); (try rw [c30]); first | done | with_reducible assumption | omega) (by first | done | with_reducible assumption | omega) ⟨_, d2⟩) ?_
    rintro cn' K' N' I77 R78 L79 ⟨rfl, rfl, rfl, rfl, g80, dj83, -⟩
    have hM84 : NmM I77 R0 L0 a1 gQ := NmM.kpS hM0 g80 hS0.1 ta1 (by decide +kernel) (by decide +kernel)
    have hS85 := hS0.tr g80 (by decide +kernel) (by decide +kernel)
    have c86 : I77 a1 2 = v37 := (g80.cell ta1 (by decide +kernel)).trans c38
    have hO87 : FrO 14 a1 T I0 I77 := hO0.st g80 (by decide +kernel)
    rcases dj83 with ⟨p88, p89, p90, p91, p92, p93, p94, p95, p96, p97, gl98, -⟩ | ⟨p99, p100, p101, p102, -⟩ | ⟨p103, p104, p105, p106, p107, -⟩
    · skip
      have hL108 := hL0.tr gl98 (by decide +kernel)
      have hM109 : NmM I77 R0 L79 a1 gQ := NmM.kpL hM84 gl98 hS85.1 ta1 (by decide +kernel)
      obtain ⟨v110, c111⟩ : ∃ v, I77 a0 13 = v := ⟨_, rfl⟩
      rw [c111] at p90
      rw [c65] at p90
      obtain ⟨v112, c113⟩ : ∃ v, I77 a0 9 = v := ⟨_, rfl⟩
      have b114 := iv15_9 hS85.1 ta0 c113
      rw [c113] at p91
      rw [c113] at p92
      obtain ⟨v115, c116⟩ : ∃ v, I77 a0 10 = v := ⟨_, rfl⟩
      have b117 := iv15_10 hS85.1 ta0 c116
      rw [c116] at p93
      obtain ⟨v118, c119⟩ : ∃ v, I77 a0 11 = v := ⟨_, rfl⟩
      rw [c119] at p94
      obtain ⟨y120, c121⟩ : ∃ v, L79 a0 15 = v := ⟨_, rfl⟩
      rw [c121] at p95
      obtain ⟨v122, c123⟩ : ∃ v, I77 a0 12 = v := ⟨_, rfl⟩
      rw [c123] at p96
      obtain ⟨v124, c125⟩ : ∃ v, I77 a0 8 = v := ⟨_, rfl⟩
      have b126 := iv15_8 hS85.1 ta0 c125
      rw [c125] at p97
      have p127 := p61
      unfold Q7M at p127
      replace hF := hF.neg (by omega)
      replace hP := hP.neg (by omega)
      replace hF := hF.neg (by omega)
      replace hP := hP.neg (by omega)
      clear p127
      obtain ⟨w128, w129, w130, w131, w132, w133, w134, w135, w136, w137, w138, w139⟩ := lnl_e (B := gB) (Q := gQ) (s := gs) (by omega) (by omega)
      replace hF := hF.to w128 (evF_c0 (B := gB) (Q := gQ) (k := srt gB gs) (s := (tkN gB gs)) (by omega) (by omega))
      replace hP := hP.to w129 (evP_c0 (B := gB) (Q := gQ) (k := srt gB gs) (s := (tkN gB gs)) (by omega) (by omega))
      refine tr_iload_n dX12_readEvent_13 rfl ?_
      refine q_iconst dX12_readEvent_14 (by decide) ?_
      intro v140 h141
      refine q_icmp_eq 23 dX12_readEvent_15 (by decide) (fun h142 => ?_) (fun h142 => ?_)
      · skip
        exfalso; omega
      · skip
        refine tr_iload_n dX12_readEvent_18 rfl ?_
        refine q_iconst dX12_readEvent_19 (by decide) ?_
        intro v143 h144
        refine q_icmp_ne 40 dX12_readEvent_20 (by decide) (fun h145 => ?_) (fun h145 => ?_)
        · skip
          refine q_bipush dX12_readEvent_40 (by decide +kernel) ?_
          intro v146 h147
          refine tr_istore_n dX12_readEvent_42 (by decide) (by decide) ?_
          refine tr_aload_n dX12_readEvent_43 rfl ?_
          refine q_iconst dX12_readEvent_44 (by decide) ?_
          intro v148 h149
          refine tr_aload_n dX12_readEvent_45 rfl ?_
          refine tr_getR dX12_readEvent_46 fl12_188 (kR15 hS85.1 ta0) d2 ?_
          refine q_getI dX12_readEvent_49 fl12_192 (kR14 hS85.1 ta1) ((hS85.cell ta1 (by decide +kernel)).trans c30) ?_
          refine q_iconst dX12_readEvent_52 (by decide) ?_
          intro v150 h151
          refine q_isubE dX12_readEvent_53 (by intros; omega) ?_
          intro v152 h153
          refine q_callVi hE (M' := mX12_readWhole) (as := [_, _]) dX12_readEvent_54 lk12_161 inX12_readWhole seX12_readWhole myX12_readWhole (by decide) ⟨by decide, by decide⟩ rfl (kR15 hS85.1 ta0) (Nat.le_of_ble_eq_true rfl) rfl rfl (by decide) (by decide) (fk_X12_readWhole hS85.1 (gB) ((tkN gB gs)) ta0 (TxA.kp hT hS85 ta0 rfl rfl rfl (by decide +kernel) (by decide +kernel)) (by (try rw [c113]); first | done | with_reducible assumption | omega) (by (try rw [c113]); first | done | with_reducible assumption | omega) (by (try rw [c116]); first | done | with_reducible assumption | omega) (by (try rw [c119]); first | done | with_reducible assumption | omega) (by (try rw [c121]); first | done | assumption) (by (try rw [c123]); first | done | assumption) (by (try rw [c125]); first | done | assumption) (by (try rw [((hS85.cell ta0 (by decide +kernel)).trans c26)]); first | done | with_reducible assumption | omega)) ?_
          rintro v159 cn' K' N' I154 R155 L156 ⟨rfl, rfl, rfl, rfl, g157, dj160, -⟩
          have hM161 : NmM I154 R0 L79 a1 gQ := NmM.kpS hM109 g157 hS85.1 ta1 (by decide +kernel) (by decide +kernel)
          have hS162 := hS85.tr g157 (by decide +kernel) (by decide +kernel)
          have c163 : I154 a1 2 = v37 := (g157.cell ta1 (by decide +kernel)).trans c86
          have hO164 : FrO 14 a1 T I0 I154 := hO87.st g157 (by decide +kernel)
          rcases dj160 with ⟨p165, p166, p167, p168, p169, p170, p171, p172, p173, p174, p175, p176, gl177, -⟩ | ⟨p178, p179, p180, p181, p182, -⟩ | ⟨p183, p184, p185, p186, p187, p188, -⟩
          · skip
            have hL189 := hL108.tr gl177 (by decide +kernel)
            have hM190 : NmM I154 R0 L156 a1 gQ := NmM.kpL hM161 gl177 hS162.1 ta1 (by decide +kernel)
            obtain ⟨v191, c192⟩ : ∃ v, I154 a0 13 = v := ⟨_, rfl⟩
            rw [c192] at p169
            rw [c111] at p169
            obtain ⟨v193, c194⟩ : ∃ v, I154 a0 9 = v := ⟨_, rfl⟩
            have b195 := iv15_9 hS162.1 ta0 c194
            rw [c194] at p170
            rw [c194] at p171
            obtain ⟨v196, c197⟩ : ∃ v, I154 a0 10 = v := ⟨_, rfl⟩
            have b198 := iv15_10 hS162.1 ta0 c197
            rw [c197] at p172
            obtain ⟨v199, c200⟩ : ∃ v, I154 a0 11 = v := ⟨_, rfl⟩
            rw [c200] at p173
            obtain ⟨y201, c202⟩ : ∃ v, L156 a0 15 = v := ⟨_, rfl⟩
            rw [c202] at p174
            obtain ⟨v203, c204⟩ : ∃ v, I154 a0 12 = v := ⟨_, rfl⟩
            rw [c204] at p175
            obtain ⟨v205, c206⟩ : ∃ v, I154 a0 8 = v := ⟨_, rfl⟩
            have b207 := iv15_8 hS162.1 ta0 c206
            rw [c206] at p176
            replace hF := hF.neg (by omega)
            replace hP := hP.neg (by omega)
            replace hF := hF.neg (by omega)
            replace hP := hP.neg (by omega)
            refine tr_istore_n dX12_readEvent_57 (by decide) (by decide) ?_
            refine tr_iload_n dX12_readEvent_58 rfl ?_
            refine q_iconst dX12_readEvent_59 (by decide) ?_
            intro v208 h209
            refine q_icmp_ne 69 dX12_readEvent_60 (by decide) (fun h210 => ?_) (fun h210 => ?_)
            · skip
              refine tr_aload_n dX12_readEvent_69 rfl ?_
              refine tr_ldcwS dX12_readEvent_70 ld12_272 ?_
              refine tr_iload_n dX12_readEvent_73 rfl ?_
              refine q_iconst dX12_readEvent_74 (by decide) ?_
              intro v211 h212
              refine q_iaddE dX12_readEvent_75 (by intros; omega) ?_
              intro v213 h214
              refine tr_aload_n dX12_readEvent_76 rfl ?_
              refine tr_getR dX12_readEvent_77 fl12_188 (kR15 hS162.1 ta0) d2 ?_
              refine q_getI dX12_readEvent_80 fl12_192 (kR14 hS162.1 ta1) ((hS162.cell ta1 (by decide +kernel)).trans c30) ?_
              refine q_callVi hE (M' := mX12_readPart) (as := [_, _, _]) dX12_readEvent_83 lk12_249 inX12_readPart seX12_readPart myX12_readPart (by decide) ⟨by decide, by decide⟩ rfl (kR15 hS162.1 ta0) (Nat.le_of_ble_eq_true rfl) rfl rfl (by decide) (by decide) (fk_X12_readPart hS162.1 (gB) ((tkN gB (tkN gB gs))) ta0 (by decide) (TxA.kp hT hS162 ta0 rfl rfl rfl (by decide +kernel) (by decide +kernel)) (by (try rw [c194]); first | done | with_reducible assumption | omega) (by (try rw [c194]); first | done | with_reducible assumption | omega) (by (try rw [c197]); first | done | with_reducible assumption | omega) (by (try rw [c200]); first | done | with_reducible assumption | omega) (by (try rw [c202]); first | done | assumption) (by (try rw [c204]); first | done | assumption) (by (try rw [c206]); first | done | assumption) (by (try rw [((hS162.cell ta0 (by decide +kernel)).trans c26)]); first | done | with_reducible assumption | omega)) ?_
              rintro v220 cn' K' N' I215 R216 L217 ⟨rfl, rfl, rfl, rfl, g218, dj221, -⟩
              (try rw [pk_25] at dj221)
              have hM222 : NmM I215 R0 L156 a1 gQ := NmM.kpS hM190 g218 hS162.1 ta1 (by decide +kernel) (by decide +kernel)
              have hS223 := hS162.tr g218 (by decide +kernel) (by decide +kernel)
              have c224 : I215 a1 2 = v37 := (g218.cell ta1 (by decide +kernel)).trans c163
              have hO225 : FrO 14 a1 T I0 I215 := hO164.st g218 (by decide +kernel)
              rcases dj221 with ⟨p226, p227, p228, p229, p230, p231, p232, p233, p234, p235, p236, p237, p238, p239, gl240, -⟩ | ⟨p241, p242, p243, p244, p245, -⟩ | ⟨p246, p247, p248, p249, p250, p251, p252, -⟩ | ⟨p253, p254, p255, p256, p257, p258, p259, p260, -⟩
              · skip
                have hL261 := hL189.tr gl240 (by decide +kernel)
                have hM262 : NmM I215 R0 L217 a1 gQ := NmM.kpL hM222 gl240 hS223.1 ta1 (by decide +kernel)
                obtain ⟨v263, c264⟩ : ∃ v, I215 a0 13 = v := ⟨_, rfl⟩
                rw [c264] at p232
                rw [c192] at p232
                obtain ⟨v265, c266⟩ : ∃ v, I215 a0 9 = v := ⟨_, rfl⟩
                have b267 := iv15_9 hS223.1 ta0 c266
                rw [c266] at p233
                rw [c266] at p234
                obtain ⟨v268, c269⟩ : ∃ v, I215 a0 10 = v := ⟨_, rfl⟩
                have b270 := iv15_10 hS223.1 ta0 c269
                rw [c269] at p235
                obtain ⟨v271, c272⟩ : ∃ v, I215 a0 11 = v := ⟨_, rfl⟩
                rw [c272] at p236
                obtain ⟨y273, c274⟩ : ∃ v, L217 a0 15 = v := ⟨_, rfl⟩
                rw [c274] at p237
                obtain ⟨v275, c276⟩ : ∃ v, I215 a0 12 = v := ⟨_, rfl⟩
                rw [c276] at p238
                obtain ⟨v277, c278⟩ : ∃ v, I215 a0 8 = v := ⟨_, rfl⟩
                have b279 := iv15_8 hS223.1 ta0 c278
                rw [c278] at p239
                replace hF := hF.neg (by omega)
                replace hP := hP.neg (by omega)
                replace hF := hF.neg (by omega)
                replace hP := hP.neg (by omega)
                replace hF := hF.neg (by omega)
                replace hP := hP.neg (by omega)
                refine tr_istore dX12_readEvent_86 (by decide) (by decide) ?_
                refine tr_aload_n dX12_readEvent_88 rfl ?_
                refine q_getI dX12_readEvent_89 fl12_99 (kR15 hS223.1 ta0) c266 ?_
                refine q_iconst dX12_readEvent_92 (by decide) ?_
                intro v280 h281
                refine q_icmp_ne 97 dX12_readEvent_93 (by decide) (fun h282 => ?_) (fun h282 => ?_)
                · skip
                  refine tr_aload_n dX12_readEvent_97 rfl ?_
                  refine tr_getR dX12_readEvent_98 fl12_188 (kR15 hS223.1 ta0) d2 ?_
                  refine q_getI dX12_readEvent_101 fl12_265 (kR14 hS223.1 ta1) c224 ?_
                  refine tr_istore dX12_readEvent_104 (by decide) (by decide) ?_
                  refine tr_aload_n dX12_readEvent_106 rfl ?_
                  refine tr_getR dX12_readEvent_107 fl12_188 (kR15 hS223.1 ta0) d2 ?_
                  refine tr_getR dX12_readEvent_110 fl12_274 (kR14 hS223.1 ta1) d67 ?_
                  refine tr_iload dX12_readEvent_113 rfl ?_
                  refine tr_iload_n dX12_readEvent_115 rfl ?_
                  refine q_iastX dX12_readEvent_116 (kR54 hS223.1 ta66) (ti_in (nR54 hS223.1 ta66) (by omega) (by omega)) hS223 ta66 (by rfl) (hS223.1.putK (m := a1) ta1 d67 (by rw [c224]; exact Int.le_of_eq (ti_nat (by omega)).symm)) ?_
                  intro I287 hS288 e289 f290
                  have c291 : I287 a1 2 = v37 := (f290 _ _ (fun q => by have z := ta1; rw [q.1, ta66] at z; exact absurd z (by decide))).trans c224
                  have c292 : I287 a0 13 = v263 := (f290 _ _ (fun q => by have z := ta0; rw [q.1, ta66] at z; exact absurd z (by decide))).trans c264
                  have c293 : I287 a0 9 = v265 := (f290 _ _ (fun q => by have z := ta0; rw [q.1, ta66] at z; exact absurd z (by decide))).trans c266
                  have c294 : I287 a0 10 = v268 := (f290 _ _ (fun q => by have z := ta0; rw [q.1, ta66] at z; exact absurd z (by decide))).trans c269
                  have c295 : I287 a0 11 = v271 := (f290 _ _ (fun q => by have z := ta0; rw [q.1, ta66] at z; exact absurd z (by decide))).trans c272
                  have c296 : I287 a0 12 = v275 := (f290 _ _ (fun q => by have z := ta0; rw [q.1, ta66] at z; exact absurd z (by decide))).trans c276
                  have c297 : I287 a0 8 = v277 := (f290 _ _ (fun q => by have z := ta0; rw [q.1, ta66] at z; exact absurd z (by decide))).trans c278
                  have hO298 : FrO 14 a1 T I0 I287 := hO225.put f290 ta66 (Or.inl (by decide))
                  have hM299 : NmM I287 R0 L217 a1 gQ := NmM.kp1 hM262 f290 ta66 rfl rfl hS223.1 ta1
                  refine tr_aload_n dX12_readEvent_117 rfl ?_
                  refine tr_getR dX12_readEvent_118 fl12_188 (kR15 hS288.1 ta0) d2 ?_
                  refine tr_getR dX12_readEvent_121 fl12_277 (kR14 hS288.1 ta1) d69 ?_
                  refine tr_iload dX12_readEvent_124 rfl ?_
                  refine tr_iload_n dX12_readEvent_126 rfl ?_
                  refine q_iastX dX12_readEvent_127 (kR55 hS288.1 ta68) (ti_in (nR55 hS288.1 ta68) (by omega) (by omega)) hS288 ta68 (by rfl) (hS288.1.putH (m := a1) ta1 d69 (by rw [c291]; exact Int.le_of_eq (ti_nat (by omega)).symm) (by omega)) ?_
                  intro I304 hS305 e306 f307
                  have c308 : I304 a1 2 = v37 := (f307 _ _ (fun q => by have z := ta1; rw [q.1, ta68] at z; exact absurd z (by decide))).trans c291
                  have c309 : I304 a0 13 = v263 := (f307 _ _ (fun q => by have z := ta0; rw [q.1, ta68] at z; exact absurd z (by decide))).trans c292
                  have c310 : I304 a0 9 = v265 := (f307 _ _ (fun q => by have z := ta0; rw [q.1, ta68] at z; exact absurd z (by decide))).trans c293
                  have c311 : I304 a0 10 = v268 := (f307 _ _ (fun q => by have z := ta0; rw [q.1, ta68] at z; exact absurd z (by decide))).trans c294
                  have c312 : I304 a0 11 = v271 := (f307 _ _ (fun q => by have z := ta0; rw [q.1, ta68] at z; exact absurd z (by decide))).trans c295
                  have c313 : I304 a0 12 = v275 := (f307 _ _ (fun q => by have z := ta0; rw [q.1, ta68] at z; exact absurd z (by decide))).trans c296
                  have c314 : I304 a0 8 = v277 := (f307 _ _ (fun q => by have z := ta0; rw [q.1, ta68] at z; exact absurd z (by decide))).trans c297
                  have c315 : I304 a66 v37.toNatClampNeg = x1 := (f307 _ _ (fun q => by have z := ta66; rw [q.1, ta68] at z; exact absurd z (by decide))).trans e289
                  have hO316 : FrO 14 a1 T I0 I304 := hO298.put f307 ta68 (Or.inl (by decide))
                  have hM317 : NmM I304 R0 L217 a1 gQ := NmM.kp1 hM299 f307 ta68 rfl rfl hS288.1 ta1
                  refine tr_aload_n dX12_readEvent_128 rfl ?_
                  refine tr_getR dX12_readEvent_129 fl12_188 (kR15 hS305.1 ta0) d2 ?_
                  refine tr_getR dX12_readEvent_132 fl12_280 (kR14 hS305.1 ta1) d71 ?_
                  refine tr_iload dX12_readEvent_135 rfl ?_
                  refine tr_iload_n dX12_readEvent_137 rfl ?_
                  refine q_iast dX12_readEvent_138 (kR56 hS305.1 ta70) (ti_in (nR56 hS305.1 ta70) (by omega) (by omega)) hS305 ta70 (by show (0 : Int) ≤ v159.toInt ∧ v159.toInt ≤ (240 : Int); omega) rfl (by rfl) ?_
                  intro I318 hS319 e321 f320
                  have c322 : I318 a1 2 = v37 := (f320 _ _ (fun q => by have z := ta1; rw [q.1, ta70] at z; exact absurd z (by decide))).trans c308
                  have c323 : I318 a0 13 = v263 := (f320 _ _ (fun q => by have z := ta0; rw [q.1, ta70] at z; exact absurd z (by decide))).trans c309
                  have c324 : I318 a0 9 = v265 := (f320 _ _ (fun q => by have z := ta0; rw [q.1, ta70] at z; exact absurd z (by decide))).trans c310
                  have c325 : I318 a0 10 = v268 := (f320 _ _ (fun q => by have z := ta0; rw [q.1, ta70] at z; exact absurd z (by decide))).trans c311
                  have c326 : I318 a0 11 = v271 := (f320 _ _ (fun q => by have z := ta0; rw [q.1, ta70] at z; exact absurd z (by decide))).trans c312
                  have c327 : I318 a0 12 = v275 := (f320 _ _ (fun q => by have z := ta0; rw [q.1, ta70] at z; exact absurd z (by decide))).trans c313
                  have c328 : I318 a0 8 = v277 := (f320 _ _ (fun q => by have z := ta0; rw [q.1, ta70] at z; exact absurd z (by decide))).trans c314
                  have c329 : I318 a66 v37.toNatClampNeg = x1 := (f320 _ _ (fun q => by have z := ta66; rw [q.1, ta70] at z; exact absurd z (by decide))).trans c315
                  have c330 : I318 a68 v37.toNatClampNeg = v146 := (f320 _ _ (fun q => by have z := ta68; rw [q.1, ta70] at z; exact absurd z (by decide))).trans e306
                  have hO331 : FrO 14 a1 T I0 I318 := hO316.put f320 ta70 (Or.inl (by decide))
                  have hM332 : NmM I318 R0 L217 a1 gQ := NmM.kp1 hM317 f320 ta70 rfl rfl hS305.1 ta1
                  refine tr_aload_n dX12_readEvent_139 rfl ?_
                  refine tr_getR dX12_readEvent_140 fl12_188 (kR15 hS319.1 ta0) d2 ?_
                  refine tr_getR dX12_readEvent_143 fl12_283 (kR14 hS319.1 ta1) d73 ?_
                  refine tr_iload dX12_readEvent_146 rfl ?_
                  refine tr_iload dX12_readEvent_148 rfl ?_
                  refine q_iast dX12_readEvent_150 (kR57 hS319.1 ta72) (ti_in (nR57 hS319.1 ta72) (by omega) (by omega)) hS319 ta72 (by show (0 : Int) ≤ v220.toInt ∧ v220.toInt ≤ (240 : Int); omega) rfl (by rfl) ?_
                  intro I333 hS334 e336 f335
                  have c337 : I333 a1 2 = v37 := (f335 _ _ (fun q => by have z := ta1; rw [q.1, ta72] at z; exact absurd z (by decide))).trans c322
                  have c338 : I333 a0 13 = v263 := (f335 _ _ (fun q => by have z := ta0; rw [q.1, ta72] at z; exact absurd z (by decide))).trans c323
                  have c339 : I333 a0 9 = v265 := (f335 _ _ (fun q => by have z := ta0; rw [q.1, ta72] at z; exact absurd z (by decide))).trans c324
                  have c340 : I333 a0 10 = v268 := (f335 _ _ (fun q => by have z := ta0; rw [q.1, ta72] at z; exact absurd z (by decide))).trans c325
                  have c341 : I333 a0 11 = v271 := (f335 _ _ (fun q => by have z := ta0; rw [q.1, ta72] at z; exact absurd z (by decide))).trans c326
                  have c342 : I333 a0 12 = v275 := (f335 _ _ (fun q => by have z := ta0; rw [q.1, ta72] at z; exact absurd z (by decide))).trans c327
                  have c343 : I333 a0 8 = v277 := (f335 _ _ (fun q => by have z := ta0; rw [q.1, ta72] at z; exact absurd z (by decide))).trans c328
                  have c344 : I333 a66 v37.toNatClampNeg = x1 := (f335 _ _ (fun q => by have z := ta66; rw [q.1, ta72] at z; exact absurd z (by decide))).trans c329
                  have c345 : I333 a68 v37.toNatClampNeg = v146 := (f335 _ _ (fun q => by have z := ta68; rw [q.1, ta72] at z; exact absurd z (by decide))).trans c330
                  have hO346 : FrO 14 a1 T I0 I333 := hO331.put f335 ta72 (Or.inl (by decide))
                  have hM347 : NmM I333 R0 L217 a1 gQ := NmM.kp1 hM332 f335 ta72 rfl rfl hS319.1 ta1
                  refine tr_aload_n dX12_readEvent_151 rfl ?_
                  refine tr_getR dX12_readEvent_152 fl12_188 (kR15 hS334.1 ta0) d2 ?_
                  refine tr_dup dX12_readEvent_155 rfl ?_
                  refine q_getI dX12_readEvent_156 fl12_265 (kR14 hS334.1 ta1) c337 ?_
                  refine q_iconst dX12_readEvent_159 (by decide) ?_
                  intro v348 h349
                  refine q_iaddE dX12_readEvent_160 (by intros; omega) ?_
                  intro v350 h351
                  refine q_putX dX12_readEvent_161 fl12_265 (kR14 hS334.1 ta1) (Or.inl rfl) hS334 ta1 (by decide +kernel) (hS334.1.putE (i := v37.toNatClampNeg) ta1 d67 d69 (by rw [c337]; exact (ti_nat (by omega)).symm) (by rw [c337]; omega) (by omega) (by rw [c344, c345]; omega)) ?_
                  intro I352 hS353 e354 f355
                  have c356 : I352 a0 13 = v263 := (f355 _ _ (fun q => absurd q.2 (by decide))).trans c338
                  have c357 : I352 a0 9 = v265 := (f355 _ _ (fun q => absurd q.2 (by decide))).trans c339
                  have c358 : I352 a0 10 = v268 := (f355 _ _ (fun q => absurd q.2 (by decide))).trans c340
                  have c359 : I352 a0 11 = v271 := (f355 _ _ (fun q => absurd q.2 (by decide))).trans c341
                  have c360 : I352 a0 12 = v275 := (f355 _ _ (fun q => absurd q.2 (by decide))).trans c342
                  have c361 : I352 a0 8 = v277 := (f355 _ _ (fun q => absurd q.2 (by decide))).trans c343
                  have c362 : I352 a66 v37.toNatClampNeg = x1 := (f355 _ _ (fun q => by have z := ta66; rw [q.1, ta1] at z; exact absurd z (by decide))).trans c344
                  have c363 : I352 a68 v37.toNatClampNeg = v146 := (f355 _ _ (fun q => by have z := ta68; rw [q.1, ta1] at z; exact absurd z (by decide))).trans c345
                  have hO364 : FrO 14 a1 T I0 I352 := hO346.put f355 ta1 (Or.inr rfl)
                  have hM365 : NmM I352 R0 L217 a1 gQ := NmM.kp1 hM347 f355 ta1 rfl rfl hS334.1 ta1
                  have eF := hF.eq
                  have eP := hP.eq
                  have es366 := evS_c0 (B := gB) (Q := gQ) (k := srt gB gs) (s := (tkN gB gs)) (by omega) (by omega)
                  obtain ⟨v367, c368⟩ : ∃ v, I352 a0 14 = v := ⟨_, rfl⟩
                  exact tr_vret hZ dX12_readEvent_164 rfl (by decide) (by decide) ⟨rfl, rfl, rfl, rfl, rfl, hS353, (fun b hb => (Option.some.inj (d2.symm.trans hb)) ▸ (((((((((FrM.rf (R := R0) (b := a1) (T := T)).st g80 (by decide +kernel)).st g157 (by decide +kernel)).st g218 (by decide +kernel)).pu f290 (by decide) (by decide) d67).pu f307 (by decide) (by decide) d69).pu f320 (by decide) (by decide) d71).pu f335 (by decide) (by decide) d73).put f355 ta1 (by decide))), (fun dr hd => (Option.some.inj (d2.symm.trans hd)) ▸ hO364), (Or.inl ⟨(by (try rw [w130]); (try rw [es366]); first | done | with_reducible assumption | omega), (fun q0 z0 => by obtain rfl := Option.some.inj ((d2).symm.trans z0); (try rw [w130]); (try rw [es366]); (try rw [((hS353.cell ta1 (by decide +kernel)).trans c30)]); first | done | with_reducible assumption | omega), (fun q0 z0 => by obtain rfl := Option.some.inj ((d2).symm.trans z0); (try rw [w130]); (try rw [es366]); (try rw [((hS353.cell ta1 (by decide +kernel)).trans c34)]); first | done | with_reducible assumption | omega), (fun q0 z0 => by obtain rfl := Option.some.inj ((d2).symm.trans z0); (try rw [w130]); (try rw [es366]); (try rw [e354]); first | done | with_reducible assumption | omega), (fun q0 z0 => by obtain rfl := Option.some.inj ((d2).symm.trans z0); (try rw [w130]); (try rw [es366]); (try rw [((hS353.cell ta1 (by decide +kernel)).trans c42)]); first | done | with_reducible assumption | omega), (fun q0 z0 => by obtain rfl := Option.some.inj ((d2).symm.trans z0); (try rw [w130]); (try rw [es366]); (try rw [((hS353.cell ta1 (by decide +kernel)).trans c46)]); first | done | with_reducible assumption | omega), (fun q0 z0 => by obtain rfl := Option.some.inj ((d2).symm.trans z0); (try rw [w130]); (try rw [es366]); (try rw [((hS353.cell ta1 (by decide +kernel)).trans c50)]); first | done | with_reducible assumption | omega), (fun q0 z0 => by obtain rfl := Option.some.inj ((d2).symm.trans z0); (try rw [w130]); (try rw [es366]); (try rw [((hS353.cell ta1 (by decide +kernel)).trans c54)]); first | done | with_reducible assumption | omega), (fun q0 z0 => by obtain rfl := Option.some.inj ((d2).symm.trans z0); (try rw [w130]); (try rw [es366]); (try rw [((hS353.cell ta1 (by decide +kernel)).trans c58)]); first | done | with_reducible assumption | omega), (by (try rw [w130]); (try rw [es366]); (try rw [c356]); (try rw [c65]); first | done | with_reducible assumption | omega), (by (try rw [w130]); (try rw [es366]); (try rw [c357]); first | done | with_reducible assumption | omega), (by (try rw [w130]); (try rw [es366]); (try rw [c357]); first | done | with_reducible assumption | omega), (by (try rw [w130]); (try rw [es366]); (try rw [c358]); first | done | with_reducible assumption | omega), (by (try rw [w130]); (try rw [es366]); (try rw [c359]); first | done | with_reducible assumption | omega), (by (try rw [w130]); (try rw [es366]); (try rw [c274]); first | done | assumption), (by (try rw [w130]); (try rw [es366]); (try rw [c360]); first | done | assumption), (by (try rw [w130]); (try rw [es366]); (try rw [c361]); first | done | assumption), hL261, (fun b hb => (Option.some.inj (d2.symm.trans hb)) ▸ NmM.ln (NmM.bd (k := srt gB gs) hM365 (by omega) (by omega)) rfl), (fun E b hb hE => by obtain rfl := Option.some.inj (d2.symm.trans hb); exact AlM.ev hE hW0 ta1 (by omega) (by omega) (by omega) (by omega) (hS353.cell ta1 (by decide +kernel)) (RoF.st (ex := xr 54 57) hS353 (by decide +kernel)) (fun f hf => match f, hf with | 0, _ => (fun a ha => by obtain rfl := Option.some.inj (d67.symm.trans ha); have zi : v37.toNatClampNeg = (gQ 2).toNat := congrArg Int.toNat (by omega); have ze := (Eq.trans ((f355 _ _ (fun q => by have z := ta66; rw [q.1, ta1] at z; exact absurd z (by decide))).trans ((f335 _ _ (fun q => by have z := ta66; rw [q.1, ta72] at z; exact absurd z (by decide))).trans ((f320 _ _ (fun q => by have z := ta66; rw [q.1, ta70] at z; exact absurd z (by decide))).trans (f307 _ _ (fun q => by have z := ta66; rw [q.1, ta68] at z; exact absurd z (by decide)))))) e289); rw [zi] at ze; exact ⟨by rw [ze]; simp only [evD, ↓reduceIte]; repeat' (first | split | omega), fun j hj => ((f355 _ _ (fun q => by have z := ta66; rw [q.1, ta1] at z; exact absurd z (by decide))).trans ((f335 _ _ (fun q => by have z := ta66; rw [q.1, ta72] at z; exact absurd z (by decide))).trans ((f320 _ _ (fun q => by have z := ta66; rw [q.1, ta70] at z; exact absurd z (by decide))).trans ((f307 _ _ (fun q => by have z := ta66; rw [q.1, ta68] at z; exact absurd z (by decide))).trans ((f290 _ _ (fun q => hj (q.2.trans zi))).trans ((g218.cell ta66 (wm_no (by decide +kernel))).trans ((g157.cell ta66 (wm_no (by decide +kernel))).trans (g80.cell ta66 (wm_no (by decide +kernel))))))))))⟩) | 1, _ => (fun a ha => by obtain rfl := Option.some.inj (d69.symm.trans ha); have zi : v37.toNatClampNeg = (gQ 2).toNat := congrArg Int.toNat (by omega); have ze := (Eq.trans ((f355 _ _ (fun q => by have z := ta68; rw [q.1, ta1] at z; exact absurd z (by decide))).trans ((f335 _ _ (fun q => by have z := ta68; rw [q.1, ta72] at z; exact absurd z (by decide))).trans (f320 _ _ (fun q => by have z := ta68; rw [q.1, ta70] at z; exact absurd z (by decide))))) e306); rw [zi] at ze; exact ⟨by rw [ze]; simp only [evD, ↓reduceIte]; repeat' (first | split | omega), fun j hj => ((f355 _ _ (fun q => by have z := ta68; rw [q.1, ta1] at z; exact absurd z (by decide))).trans ((f335 _ _ (fun q => by have z := ta68; rw [q.1, ta72] at z; exact absurd z (by decide))).trans ((f320 _ _ (fun q => by have z := ta68; rw [q.1, ta70] at z; exact absurd z (by decide))).trans ((f307 _ _ (fun q => hj (q.2.trans zi))).trans ((f290 _ _ (fun q => by have z := ta68; rw [q.1, ta66] at z; exact absurd z (by decide))).trans ((g218.cell ta68 (wm_no (by decide +kernel))).trans ((g157.cell ta68 (wm_no (by decide +kernel))).trans (g80.cell ta68 (wm_no (by decide +kernel))))))))))⟩) | 2, _ => (fun a ha => by obtain rfl := Option.some.inj (d71.symm.trans ha); have zi : v37.toNatClampNeg = (gQ 2).toNat := congrArg Int.toNat (by omega); have ze := (Eq.trans ((f355 _ _ (fun q => by have z := ta70; rw [q.1, ta1] at z; exact absurd z (by decide))).trans (f335 _ _ (fun q => by have z := ta70; rw [q.1, ta72] at z; exact absurd z (by decide)))) e321); rw [zi] at ze; exact ⟨by rw [ze]; simp only [evD, ↓reduceIte]; repeat' (first | split | omega), fun j hj => ((f355 _ _ (fun q => by have z := ta70; rw [q.1, ta1] at z; exact absurd z (by decide))).trans ((f335 _ _ (fun q => by have z := ta70; rw [q.1, ta72] at z; exact absurd z (by decide))).trans ((f320 _ _ (fun q => hj (q.2.trans zi))).trans ((f307 _ _ (fun q => by have z := ta70; rw [q.1, ta68] at z; exact absurd z (by decide))).trans ((f290 _ _ (fun q => by have z := ta70; rw [q.1, ta66] at z; exact absurd z (by decide))).trans ((g218.cell ta70 (wm_no (by decide +kernel))).trans ((g157.cell ta70 (wm_no (by decide +kernel))).trans (g80.cell ta70 (wm_no (by decide +kernel))))))))))⟩) | 3, _ => (fun a ha => by obtain rfl := Option.some.inj (d73.symm.trans ha); have zi : v37.toNatClampNeg = (gQ 2).toNat := congrArg Int.toNat (by omega); have ze := (Eq.trans (f355 _ _ (fun q => by have z := ta72; rw [q.1, ta1] at z; exact absurd z (by decide))) e336); rw [zi] at ze; exact ⟨by rw [ze]; simp only [evD, ↓reduceIte]; repeat' (first | split | omega), fun j hj => ((f355 _ _ (fun q => by have z := ta72; rw [q.1, ta1] at z; exact absurd z (by decide))).trans ((f335 _ _ (fun q => hj (q.2.trans zi))).trans ((f320 _ _ (fun q => by have z := ta72; rw [q.1, ta70] at z; exact absurd z (by decide))).trans ((f307 _ _ (fun q => by have z := ta72; rw [q.1, ta68] at z; exact absurd z (by decide))).trans ((f290 _ _ (fun q => by have z := ta72; rw [q.1, ta66] at z; exact absurd z (by decide))).trans ((g218.cell ta72 (wm_no (by decide +kernel))).trans ((g157.cell ta72 (wm_no (by decide +kernel))).trans (g80.cell ta72 (wm_no (by decide +kernel))))))))))⟩) | f + 4, h => absurd h (by omega))), trivial⟩), trivial⟩
                · skip
                  exfalso; omega
              · skip
                obtain ⟨v369, c370⟩ : ∃ v, I215 a0 9 = v := ⟨_, rfl⟩
                have b371 := iv15_9 hS223.1 ta0 c370
                rw [c370] at p243
                obtain ⟨v372, c373⟩ : ∃ v, I215 a0 13 = v := ⟨_, rfl⟩
                rw [c373] at p244
                obtain ⟨v374, c375⟩ : ∃ v, I215 a0 14 = v := ⟨_, rfl⟩
                rw [c375] at p245
                replace hF := hF.pos (by omega)
                replace hP := hP.pos (by omega)
                refine tr_istore dX12_readEvent_86 (by decide) (by decide) ?_
                refine tr_aload_n dX12_readEvent_88 rfl ?_
                refine q_getI dX12_readEvent_89 fl12_99 (kR15 hS223.1 ta0) c370 ?_
                refine q_iconst dX12_readEvent_92 (by decide) ?_
                intro v376 h377
                refine q_icmp_ne 97 dX12_readEvent_93 (by decide) (fun h378 => ?_) (fun h378 => ?_)
                · skip
                  exfalso; omega
                · skip
                  have eF := hF.eq
                  have eP := hP.eq
                  obtain ⟨v379, c380⟩ : ∃ v, I215 a0 10 = v := ⟨_, rfl⟩
                  have b381 := iv15_10 hS223.1 ta0 c380
                  obtain ⟨v382, c383⟩ : ∃ v, I215 a0 11 = v := ⟨_, rfl⟩
                  obtain ⟨y384, c385⟩ : ∃ v, L217 a0 15 = v := ⟨_, rfl⟩
                  obtain ⟨v386, c387⟩ : ∃ v, I215 a0 12 = v := ⟨_, rfl⟩
                  obtain ⟨v388, c389⟩ : ∃ v, I215 a0 8 = v := ⟨_, rfl⟩
                  have b390 := iv15_8 hS223.1 ta0 c389
                  exact tr_vret hZ dX12_readEvent_96 rfl (by decide) (by decide) ⟨rfl, rfl, rfl, rfl, rfl, hS223, (fun b hb => (Option.some.inj (d2.symm.trans hb)) ▸ ((((FrM.rf (R := R0) (b := a1) (T := T)).st g80 (by decide +kernel)).st g157 (by decide +kernel)).st g218 (by decide +kernel))), (fun dr hd => (Option.some.inj (d2.symm.trans hd)) ▸ hO225), (Or.inr (⟨(by (try rw [w130]); first | done | with_reducible assumption | omega), (by (try rw [w130]); (try rw [c370]); first | done | with_reducible assumption | omega), (by (try rw [w130]); (try rw [c373]); first | done | with_reducible assumption | omega), (by (try rw [w130]); (try rw [c375]); first | done | with_reducible assumption | omega), trivial⟩)), trivial⟩
              · skip
                obtain ⟨v391, c392⟩ : ∃ v, I215 a0 9 = v := ⟨_, rfl⟩
                have b393 := iv15_9 hS223.1 ta0 c392
                rw [c392] at p250
                obtain ⟨v394, c395⟩ : ∃ v, I215 a0 13 = v := ⟨_, rfl⟩
                rw [c395] at p251
                obtain ⟨v396, c397⟩ : ∃ v, I215 a0 14 = v := ⟨_, rfl⟩
                rw [c397] at p252
                replace hF := hF.neg (by omega)
                replace hP := hP.neg (by omega)
                replace hF := hF.pos (by omega)
                replace hP := hP.pos (by omega)
                refine tr_istore dX12_readEvent_86 (by decide) (by decide) ?_
                refine tr_aload_n dX12_readEvent_88 rfl ?_
                refine q_getI dX12_readEvent_89 fl12_99 (kR15 hS223.1 ta0) c392 ?_
                refine q_iconst dX12_readEvent_92 (by decide) ?_
                intro v398 h399
                refine q_icmp_ne 97 dX12_readEvent_93 (by decide) (fun h400 => ?_) (fun h400 => ?_)
                · skip
                  exfalso; omega
                · skip
                  have eF := hF.eq
                  have eP := hP.eq
                  obtain ⟨v401, c402⟩ : ∃ v, I215 a0 10 = v := ⟨_, rfl⟩
                  have b403 := iv15_10 hS223.1 ta0 c402
                  obtain ⟨v404, c405⟩ : ∃ v, I215 a0 11 = v := ⟨_, rfl⟩
                  obtain ⟨y406, c407⟩ : ∃ v, L217 a0 15 = v := ⟨_, rfl⟩
                  obtain ⟨v408, c409⟩ : ∃ v, I215 a0 12 = v := ⟨_, rfl⟩
                  obtain ⟨v410, c411⟩ : ∃ v, I215 a0 8 = v := ⟨_, rfl⟩
                  have b412 := iv15_8 hS223.1 ta0 c411
                  exact tr_vret hZ dX12_readEvent_96 rfl (by decide) (by decide) ⟨rfl, rfl, rfl, rfl, rfl, hS223, (fun b hb => (Option.some.inj (d2.symm.trans hb)) ▸ ((((FrM.rf (R := R0) (b := a1) (T := T)).st g80 (by decide +kernel)).st g157 (by decide +kernel)).st g218 (by decide +kernel))), (fun dr hd => (Option.some.inj (d2.symm.trans hd)) ▸ hO225), (Or.inr (⟨(by (try rw [w130]); first | done | with_reducible assumption | omega), (by (try rw [w130]); (try rw [c392]); first | done | with_reducible assumption | omega), (by (try rw [w130]); (try rw [c395]); first | done | with_reducible assumption | omega), (by (try rw [w130]); (try rw [c397]); first | done | with_reducible assumption | omega), trivial⟩)), trivial⟩
              · skip
                obtain ⟨v413, c414⟩ : ∃ v, I215 a0 9 = v := ⟨_, rfl⟩
                have b415 := iv15_9 hS223.1 ta0 c414
                rw [c414] at p258
                obtain ⟨v416, c417⟩ : ∃ v, I215 a0 13 = v := ⟨_, rfl⟩
                rw [c417] at p259
                obtain ⟨v418, c419⟩ : ∃ v, I215 a0 14 = v := ⟨_, rfl⟩
                rw [c419] at p260
                replace hF := hF.neg (by omega)
                replace hP := hP.neg (by omega)
                replace hF := hF.neg (by omega)
                replace hP := hP.neg (by omega)
                replace hF := hF.pos (by omega)
                replace hP := hP.pos (by omega)
                refine tr_istore dX12_readEvent_86 (by decide) (by decide) ?_
                refine tr_aload_n dX12_readEvent_88 rfl ?_
                refine q_getI dX12_readEvent_89 fl12_99 (kR15 hS223.1 ta0) c414 ?_
                refine q_iconst dX12_readEvent_92 (by decide) ?_
                intro v420 h421
                refine q_icmp_ne 97 dX12_readEvent_93 (by decide) (fun h422 => ?_) (fun h422 => ?_)
                · skip
                  exfalso; omega
                · skip
                  have eF := hF.eq
                  have eP := hP.eq
                  obtain ⟨v423, c424⟩ : ∃ v, I215 a0 10 = v := ⟨_, rfl⟩
                  have b425 := iv15_10 hS223.1 ta0 c424
                  obtain ⟨v426, c427⟩ : ∃ v, I215 a0 11 = v := ⟨_, rfl⟩
                  obtain ⟨y428, c429⟩ : ∃ v, L217 a0 15 = v := ⟨_, rfl⟩
                  obtain ⟨v430, c431⟩ : ∃ v, I215 a0 12 = v := ⟨_, rfl⟩
                  obtain ⟨v432, c433⟩ : ∃ v, I215 a0 8 = v := ⟨_, rfl⟩
                  have b434 := iv15_8 hS223.1 ta0 c433
                  exact tr_vret hZ dX12_readEvent_96 rfl (by decide) (by decide) ⟨rfl, rfl, rfl, rfl, rfl, hS223, (fun b hb => (Option.some.inj (d2.symm.trans hb)) ▸ ((((FrM.rf (R := R0) (b := a1) (T := T)).st g80 (by decide +kernel)).st g157 (by decide +kernel)).st g218 (by decide +kernel))), (fun dr hd => (Option.some.inj (d2.symm.trans hd)) ▸ hO225), (Or.inr (⟨(by (try rw [w130]); first | done | with_reducible assumption | omega), (by (try rw [w130]); (try rw [c414]); first | done | with_reducible assumption | omega), (by (try rw [w130]); (try rw [c417]); first | done | with_reducible assumption | omega), (by (try rw [w130]); (try rw [c419]); first | done | with_reducible assumption | omega), trivial⟩)), trivial⟩
            · skip
              exfalso; omega
          · skip
            obtain ⟨v435, c436⟩ : ∃ v, I154 a0 9 = v := ⟨_, rfl⟩
            have b437 := iv15_9 hS162.1 ta0 c436
            rw [c436] at p180
            obtain ⟨v438, c439⟩ : ∃ v, I154 a0 13 = v := ⟨_, rfl⟩
            rw [c439] at p181
            obtain ⟨v440, c441⟩ : ∃ v, I154 a0 14 = v := ⟨_, rfl⟩
            rw [c441] at p182
            replace hF := hF.pos (by omega)
            replace hP := hP.pos (by omega)
            refine tr_istore_n dX12_readEvent_57 (by decide) (by decide) ?_
            refine tr_iload_n dX12_readEvent_58 rfl ?_
            refine q_iconst dX12_readEvent_59 (by decide) ?_
            intro v442 h443
            refine q_icmp_ne 69 dX12_readEvent_60 (by decide) (fun h444 => ?_) (fun h444 => ?_)
            · skip
              refine tr_aload_n dX12_readEvent_69 rfl ?_
              refine tr_ldcwS dX12_readEvent_70 ld12_272 ?_
              refine tr_iload_n dX12_readEvent_73 rfl ?_
              refine q_iconst dX12_readEvent_74 (by decide) ?_
              intro v445 h446
              refine q_iaddE dX12_readEvent_75 (by intros; omega) ?_
              intro v447 h448
              refine tr_aload_n dX12_readEvent_76 rfl ?_
              refine tr_getR dX12_readEvent_77 fl12_188 (kR15 hS162.1 ta0) d2 ?_
              refine q_getI dX12_readEvent_80 fl12_192 (kR14 hS162.1 ta1) ((hS162.cell ta1 (by decide +kernel)).trans c30) ?_
              refine q_callVi hE (M' := mX12_readPart) (as := [_, _, _]) dX12_readEvent_83 lk12_249 inX12_readPart seX12_readPart myX12_readPart (by decide) ⟨by decide, by decide⟩ rfl (kR15 hS162.1 ta0) (Nat.le_of_ble_eq_true rfl) rfl rfl (by decide) (by decide) (k_X12_readPart hS162.1 ta0 (by decide)) ?_
              rintro v453 cn' K' N' I449 R450 L451 ⟨rfl, rfl, rfl, rfl, g452, p454, w455, -⟩
              have hS456 := hS162.tr g452 (by decide +kernel) (by decide +kernel)
              have c457 : I449 a1 2 = v37 := (g452.cell ta1 (by decide +kernel)).trans c163
              have b458 : 1 ≤ v453.toInt ∧ v453.toInt ≤ 240 := by omega
              clear p454
              have hO459 : FrO 14 a1 T I0 I449 := hO164.st g452 (by decide +kernel)
              have ov460 := w455.over (by rw [c436]; omega)
              obtain ⟨v461, c462⟩ : ∃ v, I449 a0 9 = v := ⟨_, rfl⟩
              have b463 := iv15_9 hS456.1 ta0 c462
              obtain ⟨v464, c465⟩ : ∃ v, I449 a0 13 = v := ⟨_, rfl⟩
              obtain ⟨v466, c467⟩ : ∃ v, I449 a0 14 = v := ⟨_, rfl⟩
              (try rw [c462] at ov460)
              (try rw [c465] at ov460)
              (try rw [c467] at ov460)
              (try rw [c436] at ov460)
              (try rw [c439] at ov460)
              (try rw [c441] at ov460)
              refine tr_istore dX12_readEvent_86 (by decide) (by decide) ?_
              refine tr_aload_n dX12_readEvent_88 rfl ?_
              refine q_getI dX12_readEvent_89 fl12_99 (kR15 hS456.1 ta0) c462 ?_
              refine q_iconst dX12_readEvent_92 (by decide) ?_
              intro v468 h469
              refine q_icmp_ne 97 dX12_readEvent_93 (by decide) (fun h470 => ?_) (fun h470 => ?_)
              · skip
                exfalso; omega
              · skip
                have eF := hF.eq
                have eP := hP.eq
                obtain ⟨v471, c472⟩ : ∃ v, I449 a0 10 = v := ⟨_, rfl⟩
                have b473 := iv15_10 hS456.1 ta0 c472
                obtain ⟨v474, c475⟩ : ∃ v, I449 a0 11 = v := ⟨_, rfl⟩
                obtain ⟨y476, c477⟩ : ∃ v, L451 a0 15 = v := ⟨_, rfl⟩
                obtain ⟨v478, c479⟩ : ∃ v, I449 a0 12 = v := ⟨_, rfl⟩
                obtain ⟨v480, c481⟩ : ∃ v, I449 a0 8 = v := ⟨_, rfl⟩
                have b482 := iv15_8 hS456.1 ta0 c481
                exact tr_vret hZ dX12_readEvent_96 rfl (by decide) (by decide) ⟨rfl, rfl, rfl, rfl, rfl, hS456, (fun b hb => (Option.some.inj (d2.symm.trans hb)) ▸ ((((FrM.rf (R := R0) (b := a1) (T := T)).st g80 (by decide +kernel)).st g157 (by decide +kernel)).st g452 (by decide +kernel))), (fun dr hd => (Option.some.inj (d2.symm.trans hd)) ▸ hO459), (Or.inr (⟨(by (try rw [w130]); first | done | with_reducible assumption | omega), (by (try rw [w130]); (try rw [c462]); first | done | with_reducible assumption | omega), (by (try rw [w130]); (try rw [c465]); first | done | with_reducible assumption | omega), (by (try rw [w130]); (try rw [c467]); first | done | with_reducible assumption | omega), trivial⟩)), trivial⟩
            · skip
              exfalso; omega
          · skip
            obtain ⟨v483, c484⟩ : ∃ v, I154 a0 9 = v := ⟨_, rfl⟩
            have b485 := iv15_9 hS162.1 ta0 c484
            rw [c484] at p186
            obtain ⟨v486, c487⟩ : ∃ v, I154 a0 13 = v := ⟨_, rfl⟩
            rw [c487] at p187
            obtain ⟨v488, c489⟩ : ∃ v, I154 a0 14 = v := ⟨_, rfl⟩
            rw [c489] at p188
            replace hF := hF.neg (by omega)
            replace hP := hP.neg (by omega)
            replace hF := hF.pos (by omega)
            replace hP := hP.pos (by omega)
            refine tr_istore_n dX12_readEvent_57 (by decide) (by decide) ?_
            refine tr_iload_n dX12_readEvent_58 rfl ?_
            refine q_iconst dX12_readEvent_59 (by decide) ?_
            intro v490 h491
            refine q_icmp_ne 69 dX12_readEvent_60 (by decide) (fun h492 => ?_) (fun h492 => ?_)
            · skip
              refine tr_aload_n dX12_readEvent_69 rfl ?_
              refine tr_ldcwS dX12_readEvent_70 ld12_272 ?_
              refine tr_iload_n dX12_readEvent_73 rfl ?_
              refine q_iconst dX12_readEvent_74 (by decide) ?_
              intro v493 h494
              refine q_iaddE dX12_readEvent_75 (by intros; omega) ?_
              intro v495 h496
              refine tr_aload_n dX12_readEvent_76 rfl ?_
              refine tr_getR dX12_readEvent_77 fl12_188 (kR15 hS162.1 ta0) d2 ?_
              refine q_getI dX12_readEvent_80 fl12_192 (kR14 hS162.1 ta1) ((hS162.cell ta1 (by decide +kernel)).trans c30) ?_
              refine q_callVi hE (M' := mX12_readPart) (as := [_, _, _]) dX12_readEvent_83 lk12_249 inX12_readPart seX12_readPart myX12_readPart (by decide) ⟨by decide, by decide⟩ rfl (kR15 hS162.1 ta0) (Nat.le_of_ble_eq_true rfl) rfl rfl (by decide) (by decide) (k_X12_readPart hS162.1 ta0 (by decide)) ?_
              rintro v501 cn' K' N' I497 R498 L499 ⟨rfl, rfl, rfl, rfl, g500, p502, w503, -⟩
              have hS504 := hS162.tr g500 (by decide +kernel) (by decide +kernel)
              have c505 : I497 a1 2 = v37 := (g500.cell ta1 (by decide +kernel)).trans c163
              have b506 : 1 ≤ v501.toInt ∧ v501.toInt ≤ 240 := by omega
              clear p502
              have hO507 : FrO 14 a1 T I0 I497 := hO164.st g500 (by decide +kernel)
              have ov508 := w503.over (by rw [c484]; omega)
              obtain ⟨v509, c510⟩ : ∃ v, I497 a0 9 = v := ⟨_, rfl⟩
              have b511 := iv15_9 hS504.1 ta0 c510
              obtain ⟨v512, c513⟩ : ∃ v, I497 a0 13 = v := ⟨_, rfl⟩
              obtain ⟨v514, c515⟩ : ∃ v, I497 a0 14 = v := ⟨_, rfl⟩
              (try rw [c510] at ov508)
              (try rw [c513] at ov508)
              (try rw [c515] at ov508)
              (try rw [c484] at ov508)
              (try rw [c487] at ov508)
              (try rw [c489] at ov508)
              refine tr_istore dX12_readEvent_86 (by decide) (by decide) ?_
              refine tr_aload_n dX12_readEvent_88 rfl ?_
              refine q_getI dX12_readEvent_89 fl12_99 (kR15 hS504.1 ta0) c510 ?_
              refine q_iconst dX12_readEvent_92 (by decide) ?_
              intro v516 h517
              refine q_icmp_ne 97 dX12_readEvent_93 (by decide) (fun h518 => ?_) (fun h518 => ?_)
              · skip
                exfalso; omega
              · skip
                have eF := hF.eq
                have eP := hP.eq
                obtain ⟨v519, c520⟩ : ∃ v, I497 a0 10 = v := ⟨_, rfl⟩
                have b521 := iv15_10 hS504.1 ta0 c520
                obtain ⟨v522, c523⟩ : ∃ v, I497 a0 11 = v := ⟨_, rfl⟩
                obtain ⟨y524, c525⟩ : ∃ v, L499 a0 15 = v := ⟨_, rfl⟩
                obtain ⟨v526, c527⟩ : ∃ v, I497 a0 12 = v := ⟨_, rfl⟩
                obtain ⟨v528, c529⟩ : ∃ v, I497 a0 8 = v := ⟨_, rfl⟩
                have b530 := iv15_8 hS504.1 ta0 c529
                exact tr_vret hZ dX12_readEvent_96 rfl (by decide) (by decide) ⟨rfl, rfl, rfl, rfl, rfl, hS504, (fun b hb => (Option.some.inj (d2.symm.trans hb)) ▸ ((((FrM.rf (R := R0) (b := a1) (T := T)).st g80 (by decide +kernel)).st g157 (by decide +kernel)).st g500 (by decide +kernel))), (fun dr hd => (Option.some.inj (d2.symm.trans hd)) ▸ hO507), (Or.inr (⟨(by (try rw [w130]); first | done | with_reducible assumption | omega), (by (try rw [w130]); (try rw [c510]); first | done | with_reducible assumption | omega), (by (try rw [w130]); (try rw [c513]); first | done | with_reducible assumption | omega), (by (try rw [w130]); (try rw [c515]); first | done | with_reducible assumption | omega), trivial⟩)), trivial⟩
            · skip
              exfalso; omega
        · skip
          exfalso; omega
    · skip
      obtain ⟨v531, c532⟩ : ∃ v, I77 a0 9 = v := ⟨_, rfl⟩
      have b533 := iv15_9 hS85.1 ta0 c532
      rw [c532] at p100
      obtain ⟨v534, c535⟩ : ∃ v, I77 a0 13 = v := ⟨_, rfl⟩
      rw [c535] at p101
      obtain ⟨v536, c537⟩ : ∃ v, I77 a0 14 = v := ⟨_, rfl⟩
      rw [c537] at p102
      have p538 := p61
      unfold Q7M at p538
      replace hF := hF.pos (by omega)
      replace hP := hP.pos (by omega)
      clear p538
      refine tr_iload_n dX12_readEvent_13 rfl ?_
      refine q_iconst dX12_readEvent_14 (by decide) ?_
      intro v539 h540
      refine q_icmp_eq 23 dX12_readEvent_15 (by decide) (fun h541 => ?_) (fun h541 => ?_)
      · skip
        exfalso; omega
      · skip
        refine tr_iload_n dX12_readEvent_18 rfl ?_
        refine q_iconst dX12_readEvent_19 (by decide) ?_
        intro v542 h543
        refine q_icmp_ne 40 dX12_readEvent_20 (by decide) (fun h544 => ?_) (fun h544 => ?_)
        · skip
          refine q_bipush dX12_readEvent_40 (by decide +kernel) ?_
          intro v545 h546
          refine tr_istore_n dX12_readEvent_42 (by decide) (by decide) ?_
          refine tr_aload_n dX12_readEvent_43 rfl ?_
          refine q_iconst dX12_readEvent_44 (by decide) ?_
          intro v547 h548
          refine tr_aload_n dX12_readEvent_45 rfl ?_
          refine tr_getR dX12_readEvent_46 fl12_188 (kR15 hS85.1 ta0) d2 ?_
          refine q_getI dX12_readEvent_49 fl12_192 (kR14 hS85.1 ta1) ((hS85.cell ta1 (by decide +kernel)).trans c30) ?_
          refine q_iconst dX12_readEvent_52 (by decide) ?_
          intro v549 h550
          refine q_isubE dX12_readEvent_53 (by intros; omega) ?_
          intro v551 h552
          refine q_callVi hE (M' := mX12_readWhole) (as := [_, _]) dX12_readEvent_54 lk12_161 inX12_readWhole seX12_readWhole myX12_readWhole (by decide) ⟨by decide, by decide⟩ rfl (kR15 hS85.1 ta0) (Nat.le_of_ble_eq_true rfl) rfl rfl (by decide) (by decide) (k_X12_readWhole hS85.1 ta0) ?_
          rintro v557 cn' K' N' I553 R554 L555 ⟨rfl, rfl, rfl, rfl, g556, p558, w559, -⟩
          have hS560 := hS85.tr g556 (by decide +kernel) (by decide +kernel)
          have c561 : I553 a1 2 = v37 := (g556.cell ta1 (by decide +kernel)).trans c86
          have b562 : 0 ≤ v557.toInt ∧ v557.toInt ≤ 239 := by omega
          clear p558
          have hO563 : FrO 14 a1 T I0 I553 := hO87.st g556 (by decide +kernel)
          have ov564 := w559.over (by rw [c532]; omega)
          obtain ⟨v565, c566⟩ : ∃ v, I553 a0 9 = v := ⟨_, rfl⟩
          have b567 := iv15_9 hS560.1 ta0 c566
          obtain ⟨v568, c569⟩ : ∃ v, I553 a0 13 = v := ⟨_, rfl⟩
          obtain ⟨v570, c571⟩ : ∃ v, I553 a0 14 = v := ⟨_, rfl⟩
          (try rw [c566] at ov564)
          (try rw [c569] at ov564)
          (try rw [c571] at ov564)
          (try rw [c532] at ov564)
          (try rw [c535] at ov564)
          (try rw [c537] at ov564)
          refine tr_istore_n dX12_readEvent_57 (by decide) (by decide) ?_
          refine tr_iload_n dX12_readEvent_58 rfl ?_
          refine q_iconst dX12_readEvent_59 (by decide) ?_
          intro v572 h573
          refine q_icmp_ne 69 dX12_readEvent_60 (by decide) (fun h574 => ?_) (fun h574 => ?_)
          · skip
            refine tr_aload_n dX12_readEvent_69 rfl ?_
            refine tr_ldcwS dX12_readEvent_70 ld12_272 ?_
            refine tr_iload_n dX12_readEvent_73 rfl ?_
            refine q_iconst dX12_readEvent_74 (by decide) ?_
            intro v575 h576
            refine q_iaddE dX12_readEvent_75 (by intros; omega) ?_
            intro v577 h578
            refine tr_aload_n dX12_readEvent_76 rfl ?_
            refine tr_getR dX12_readEvent_77 fl12_188 (kR15 hS560.1 ta0) d2 ?_
            refine q_getI dX12_readEvent_80 fl12_192 (kR14 hS560.1 ta1) ((hS560.cell ta1 (by decide +kernel)).trans c30) ?_
            refine q_callVi hE (M' := mX12_readPart) (as := [_, _, _]) dX12_readEvent_83 lk12_249 inX12_readPart seX12_readPart myX12_readPart (by decide) ⟨by decide, by decide⟩ rfl (kR15 hS560.1 ta0) (Nat.le_of_ble_eq_true rfl) rfl rfl (by decide) (by decide) (k_X12_readPart hS560.1 ta0 (by decide)) ?_
            rintro v583 cn' K' N' I579 R580 L581 ⟨rfl, rfl, rfl, rfl, g582, p584, w585, -⟩
            have hS586 := hS560.tr g582 (by decide +kernel) (by decide +kernel)
            have c587 : I579 a1 2 = v37 := (g582.cell ta1 (by decide +kernel)).trans c561
            have b588 : 1 ≤ v583.toInt ∧ v583.toInt ≤ 240 := by omega
            clear p584
            have hO589 : FrO 14 a1 T I0 I579 := hO563.st g582 (by decide +kernel)
            have ov590 := w585.over (by rw [c566]; omega)
            obtain ⟨v591, c592⟩ : ∃ v, I579 a0 9 = v := ⟨_, rfl⟩
            have b593 := iv15_9 hS586.1 ta0 c592
            obtain ⟨v594, c595⟩ : ∃ v, I579 a0 13 = v := ⟨_, rfl⟩
            obtain ⟨v596, c597⟩ : ∃ v, I579 a0 14 = v := ⟨_, rfl⟩
            (try rw [c592] at ov590)
            (try rw [c595] at ov590)
            (try rw [c597] at ov590)
            (try rw [c566] at ov590)
            (try rw [c569] at ov590)
            (try rw [c571] at ov590)
            refine tr_istore dX12_readEvent_86 (by decide) (by decide) ?_
            refine tr_aload_n dX12_readEvent_88 rfl ?_
            refine q_getI dX12_readEvent_89 fl12_99 (kR15 hS586.1 ta0) c592 ?_
            refine q_iconst dX12_readEvent_92 (by decide) ?_
            intro v598 h599
            refine q_icmp_ne 97 dX12_readEvent_93 (by decide) (fun h600 => ?_) (fun h600 => ?_)
            · skip
              exfalso; omega
            · skip
              have eF := hF.eq
              have eP := hP.eq
              obtain ⟨v601, c602⟩ : ∃ v, I579 a0 10 = v := ⟨_, rfl⟩
              have b603 := iv15_10 hS586.1 ta0 c602
              obtain ⟨v604, c605⟩ : ∃ v, I579 a0 11 = v := ⟨_, rfl⟩
              obtain ⟨y606, c607⟩ : ∃ v, L581 a0 15 = v := ⟨_, rfl⟩
              obtain ⟨v608, c609⟩ : ∃ v, I579 a0 12 = v := ⟨_, rfl⟩
              obtain ⟨v610, c611⟩ : ∃ v, I579 a0 8 = v := ⟨_, rfl⟩
              have b612 := iv15_8 hS586.1 ta0 c611
              exact tr_vret hZ dX12_readEvent_96 rfl (by decide) (by decide) ⟨rfl, rfl, rfl, rfl, rfl, hS586, (fun b hb => (Option.some.inj (d2.symm.trans hb)) ▸ ((((FrM.rf (R := R0) (b := a1) (T := T)).st g80 (by decide +kernel)).st g556 (by decide +kernel)).st g582 (by decide +kernel))), (fun dr hd => (Option.some.inj (d2.symm.trans hd)) ▸ hO589), (Or.inr (⟨(by first | done | with_reducible assumption | omega), (by (try rw [c592]); first | done | with_reducible assumption | omega), (by (try rw [c595]); first | done | with_reducible assumption | omega), (by (try rw [c597]); first | done | with_reducible assumption | omega), trivial⟩)), trivial⟩
          · skip
            exfalso; omega
        · skip
          exfalso; omega
    · skip
      obtain ⟨v613, c614⟩ : ∃ v, I77 a0 9 = v := ⟨_, rfl⟩
      have b615 := iv15_9 hS85.1 ta0 c614
      rw [c614] at p105
      obtain ⟨v616, c617⟩ : ∃ v, I77 a0 13 = v := ⟨_, rfl⟩
      rw [c617] at p106
      obtain ⟨v618, c619⟩ : ∃ v, I77 a0 14 = v := ⟨_, rfl⟩
      rw [c619] at p107
      have p620 := p61
      unfold Q7M at p620
      replace hF := hF.neg (by omega)
      replace hP := hP.neg (by omega)
      replace hF := hF.pos (by omega)
      replace hP := hP.pos (by omega)
      clear p620
      refine tr_iload_n dX12_readEvent_13 rfl ?_
      refine q_iconst dX12_readEvent_14 (by decide) ?_
      intro v621 h622
      refine q_icmp_eq 23 dX12_readEvent_15 (by decide) (fun h623 => ?_) (fun h623 => ?_)
      · skip
        exfalso; omega
      · skip
        refine tr_iload_n dX12_readEvent_18 rfl ?_
        refine q_iconst dX12_readEvent_19 (by decide) ?_
        intro v624 h625
        refine q_icmp_ne 40 dX12_readEvent_20 (by decide) (fun h626 => ?_) (fun h626 => ?_)
        · skip
          refine q_bipush dX12_readEvent_40 (by decide +kernel) ?_
          intro v627 h628
          refine tr_istore_n dX12_readEvent_42 (by decide) (by decide) ?_
          refine tr_aload_n dX12_readEvent_43 rfl ?_
          refine q_iconst dX12_readEvent_44 (by decide) ?_
          intro v629 h630
          refine tr_aload_n dX12_readEvent_45 rfl ?_
          refine tr_getR dX12_readEvent_46 fl12_188 (kR15 hS85.1 ta0) d2 ?_
          refine q_getI dX12_readEvent_49 fl12_192 (kR14 hS85.1 ta1) ((hS85.cell ta1 (by decide +kernel)).trans c30) ?_
          refine q_iconst dX12_readEvent_52 (by decide) ?_
          intro v631 h632
          refine q_isubE dX12_readEvent_53 (by intros; omega) ?_
          intro v633 h634
          refine q_callVi hE (M' := mX12_readWhole) (as := [_, _]) dX12_readEvent_54 lk12_161 inX12_readWhole seX12_readWhole myX12_readWhole (by decide) ⟨by decide, by decide⟩ rfl (kR15 hS85.1 ta0) (Nat.le_of_ble_eq_true rfl) rfl rfl (by decide) (by decide) (k_X12_readWhole hS85.1 ta0) ?_
          rintro v639 cn' K' N' I635 R636 L637 ⟨rfl, rfl, rfl, rfl, g638, p640, w641, -⟩
          have hS642 := hS85.tr g638 (by decide +kernel) (by decide +kernel)
          have c643 : I635 a1 2 = v37 := (g638.cell ta1 (by decide +kernel)).trans c86
          have b644 : 0 ≤ v639.toInt ∧ v639.toInt ≤ 0 := by omega
          clear p640
          have hO645 : FrO 14 a1 T I0 I635 := hO87.st g638 (by decide +kernel)
          have ov646 := w641.over (by rw [c614]; omega)
          obtain ⟨v647, c648⟩ : ∃ v, I635 a0 9 = v := ⟨_, rfl⟩
          have b649 := iv15_9 hS642.1 ta0 c648
          obtain ⟨v650, c651⟩ : ∃ v, I635 a0 13 = v := ⟨_, rfl⟩
          obtain ⟨v652, c653⟩ : ∃ v, I635 a0 14 = v := ⟨_, rfl⟩
          (try rw [c648] at ov646)
          (try rw [c651] at ov646)
          (try rw [c653] at ov646)
          (try rw [c614] at ov646)
          (try rw [c617] at ov646)
          (try rw [c619] at ov646)
          refine tr_istore_n dX12_readEvent_57 (by decide) (by decide) ?_
          refine tr_iload_n dX12_readEvent_58 rfl ?_
          refine q_iconst dX12_readEvent_59 (by decide) ?_
          intro v654 h655
          refine q_icmp_ne 69 dX12_readEvent_60 (by decide) (fun h656 => ?_) (fun h656 => ?_)
          · skip
            refine tr_aload_n dX12_readEvent_69 rfl ?_
            refine tr_ldcwS dX12_readEvent_70 ld12_272 ?_
            refine tr_iload_n dX12_readEvent_73 rfl ?_
            refine q_iconst dX12_readEvent_74 (by decide) ?_
            intro v657 h658
            refine q_iaddE dX12_readEvent_75 (by intros; omega) ?_
            intro v659 h660
            refine tr_aload_n dX12_readEvent_76 rfl ?_
            refine tr_getR dX12_readEvent_77 fl12_188 (kR15 hS642.1 ta0) d2 ?_
            refine q_getI dX12_readEvent_80 fl12_192 (kR14 hS642.1 ta1) ((hS642.cell ta1 (by decide +kernel)).trans c30) ?_
            refine q_callVi hE (M' := mX12_readPart) (as := [_, _, _]) dX12_readEvent_83 lk12_249 inX12_readPart seX12_readPart myX12_readPart (by decide) ⟨by decide, by decide⟩ rfl (kR15 hS642.1 ta0) (Nat.le_of_ble_eq_true rfl) rfl rfl (by decide) (by decide) (k_X12_readPart hS642.1 ta0 (by decide)) ?_
            rintro v665 cn' K' N' I661 R662 L663 ⟨rfl, rfl, rfl, rfl, g664, p666, w667, -⟩
            have hS668 := hS642.tr g664 (by decide +kernel) (by decide +kernel)
            have c669 : I661 a1 2 = v37 := (g664.cell ta1 (by decide +kernel)).trans c643
            have b670 : 1 ≤ v665.toInt ∧ v665.toInt ≤ 1 := by omega
            clear p666
            have hO671 : FrO 14 a1 T I0 I661 := hO645.st g664 (by decide +kernel)
            have ov672 := w667.over (by rw [c648]; omega)
            obtain ⟨v673, c674⟩ : ∃ v, I661 a0 9 = v := ⟨_, rfl⟩
            have b675 := iv15_9 hS668.1 ta0 c674
            obtain ⟨v676, c677⟩ : ∃ v, I661 a0 13 = v := ⟨_, rfl⟩
            obtain ⟨v678, c679⟩ : ∃ v, I661 a0 14 = v := ⟨_, rfl⟩
            (try rw [c674] at ov672)
            (try rw [c677] at ov672)
            (try rw [c679] at ov672)
            (try rw [c648] at ov672)
            (try rw [c651] at ov672)
            (try rw [c653] at ov672)
            refine tr_istore dX12_readEvent_86 (by decide) (by decide) ?_
            refine tr_aload_n dX12_readEvent_88 rfl ?_
            refine q_getI dX12_readEvent_89 fl12_99 (kR15 hS668.1 ta0) c674 ?_
            refine q_iconst dX12_readEvent_92 (by decide) ?_
            intro v680 h681
            refine q_icmp_ne 97 dX12_readEvent_93 (by decide) (fun h682 => ?_) (fun h682 => ?_)
            · skip
              exfalso; omega
            · skip
              have eF := hF.eq
              have eP := hP.eq
              obtain ⟨v683, c684⟩ : ∃ v, I661 a0 10 = v := ⟨_, rfl⟩
              have b685 := iv15_10 hS668.1 ta0 c684
              obtain ⟨v686, c687⟩ : ∃ v, I661 a0 11 = v := ⟨_, rfl⟩
              obtain ⟨y688, c689⟩ : ∃ v, L663 a0 15 = v := ⟨_, rfl⟩
              obtain ⟨v690, c691⟩ : ∃ v, I661 a0 12 = v := ⟨_, rfl⟩
              obtain ⟨v692, c693⟩ : ∃ v, I661 a0 8 = v := ⟨_, rfl⟩
              have b694 := iv15_8 hS668.1 ta0 c693
              exact tr_vret hZ dX12_readEvent_96 rfl (by decide) (by decide) ⟨rfl, rfl, rfl, rfl, rfl, hS668, (fun b hb => (Option.some.inj (d2.symm.trans hb)) ▸ ((((FrM.rf (R := R0) (b := a1) (T := T)).st g80 (by decide +kernel)).st g638 (by decide +kernel)).st g664 (by decide +kernel))), (fun dr hd => (Option.some.inj (d2.symm.trans hd)) ▸ hO671), (Or.inr (⟨(by first | done | with_reducible assumption | omega), (by (try rw [c674]); first | done | with_reducible assumption | omega), (by (try rw [c677]); first | done | with_reducible assumption | omega), (by (try rw [c679]); first | done | with_reducible assumption | omega), trivial⟩)), trivial⟩
          · skip
            exfalso; omega
        · skip
          exfalso; omega
  · skip
    refine tr_aload_n dX12_readEvent_0 rfl ?_
    refine tr_aload_n dX12_readEvent_1 rfl ?_
    refine tr_getR dX12_readEvent_2 fl12_188 (kR15 hS0.1 ta0) d2 ?_
    refine q_getI dX12_readEvent_5 fl12_265 (kR14 hS0.1 ta1) c38 ?_
    refine q_bipush dX12_readEvent_8 (by decide +kernel) ?_
    intro v695 h696
    refine q_callVv hE (M' := mX12_begins) (as := [_, _]) dX12_readEvent_10 lk12_268 inX12_begins seX12_begins myX12_begins (by decide) ⟨by decide, by decide⟩ rfl (kR15 hS0.1 ta0) (Nat.le_of_ble_eq_true rfl) rfl rfl (by decide) (by decide) (fk_X12_begins hS0.1 (gB) (gs) (gQ) ta0 (TxA.kp hT hS0 ta0 rfl rfl rfl (by decide +kernel) (by decide +kernel)) (by (try rw [c4]); first | done | with_reducible assumption | omega) (by (try rw [c4]); first | done | with_reducible assumption | omega) (by (try rw [c9]); first | done | with_reducible assumption | omega) (by (try rw [c13]); first | done | with_reducible assumption | omega) (by (try rw [c16]); first | done | assumption) (by (try rw [c19]); first | done | assumption) (by (try rw [c22]); first | done | assumption) (by (try rw [c26]); first | done | with_reducible assumption | omega) (fun q0 z0 => by obtain rfl := Option.some.inj ((d2).symm.trans z0); (try rw [c30]); first | done | with_reducible assumption | omega) (by first | done | with_reducible assumption | omega) ⟨_, d2⟩) ?_
    rintro cn' K' N' I697 R698 L699 ⟨rfl, rfl, rfl, rfl, g700, dj703, -⟩
    have hM704 : NmM I697 R0 L0 a1 gQ := NmM.kpS hM0 g700 hS0.1 ta1 (by decide +kernel) (by decide +kernel)
    have hS705 := hS0.tr g700 (by decide +kernel) (by decide +kernel)
    have c706 : I697 a1 2 = v37 := (g700.cell ta1 (by decide +kernel)).trans c38
    have hO707 : FrO 14 a1 T I0 I697 := hO0.st g700 (by decide +kernel)
    rcases dj703 with ⟨p708, p709, p710, p711, p712, p713, p714, p715, p716, p717, gl718, -⟩ | ⟨p719, p720, p721, p722, -⟩ | ⟨p723, p724, p725, p726, p727, -⟩
    · skip
      have hL728 := hL0.tr gl718 (by decide +kernel)
      have hM729 : NmM I697 R0 L699 a1 gQ := NmM.kpL hM704 gl718 hS705.1 ta1 (by decide +kernel)
      obtain ⟨v730, c731⟩ : ∃ v, I697 a0 13 = v := ⟨_, rfl⟩
      rw [c731] at p710
      rw [c65] at p710
      obtain ⟨v732, c733⟩ : ∃ v, I697 a0 9 = v := ⟨_, rfl⟩
      have b734 := iv15_9 hS705.1 ta0 c733
      rw [c733] at p711
      rw [c733] at p712
      obtain ⟨v735, c736⟩ : ∃ v, I697 a0 10 = v := ⟨_, rfl⟩
      have b737 := iv15_10 hS705.1 ta0 c736
      rw [c736] at p713
      obtain ⟨v738, c739⟩ : ∃ v, I697 a0 11 = v := ⟨_, rfl⟩
      rw [c739] at p714
      obtain ⟨y740, c741⟩ : ∃ v, L699 a0 15 = v := ⟨_, rfl⟩
      rw [c741] at p715
      obtain ⟨v742, c743⟩ : ∃ v, I697 a0 12 = v := ⟨_, rfl⟩
      rw [c743] at p716
      obtain ⟨v744, c745⟩ : ∃ v, I697 a0 8 = v := ⟨_, rfl⟩
      have b746 := iv15_8 hS705.1 ta0 c745
      rw [c745] at p717
      have p747 := p61
      unfold Q7M at p747
      replace hF := hF.neg (by omega)
      replace hP := hP.neg (by omega)
      replace hF := hF.neg (by omega)
      replace hP := hP.neg (by omega)
      clear p747
      obtain ⟨w748, w749, w750, w751, w752, w753, w754, w755, w756, w757, w758, w759⟩ := lnl_e (B := gB) (Q := gQ) (s := gs) (by omega) (by omega)
      replace hF := hF.to w748 (evF_c0 (B := gB) (Q := gQ) (k := srt gB gs) (s := (tkN gB gs)) (by omega) (by omega))
      replace hP := hP.to w749 (evP_c0 (B := gB) (Q := gQ) (k := srt gB gs) (s := (tkN gB gs)) (by omega) (by omega))
      refine tr_iload_n dX12_readEvent_13 rfl ?_
      refine q_iconst dX12_readEvent_14 (by decide) ?_
      intro v760 h761
      refine q_icmp_eq 23 dX12_readEvent_15 (by decide) (fun h762 => ?_) (fun h762 => ?_)
      · skip
        exfalso; omega
      · skip
        refine tr_iload_n dX12_readEvent_18 rfl ?_
        refine q_iconst dX12_readEvent_19 (by decide) ?_
        intro v763 h764
        refine q_icmp_ne 40 dX12_readEvent_20 (by decide) (fun h765 => ?_) (fun h765 => ?_)
        · skip
          refine q_bipush dX12_readEvent_40 (by decide +kernel) ?_
          intro v766 h767
          refine tr_istore_n dX12_readEvent_42 (by decide) (by decide) ?_
          refine tr_aload_n dX12_readEvent_43 rfl ?_
          refine q_iconst dX12_readEvent_44 (by decide) ?_
          intro v768 h769
          refine tr_aload_n dX12_readEvent_45 rfl ?_
          refine tr_getR dX12_readEvent_46 fl12_188 (kR15 hS705.1 ta0) d2 ?_
          refine q_getI dX12_readEvent_49 fl12_192 (kR14 hS705.1 ta1) ((hS705.cell ta1 (by decide +kernel)).trans c30) ?_
          refine q_iconst dX12_readEvent_52 (by decide) ?_
          intro v770 h771
          refine q_isubE dX12_readEvent_53 (by intros; omega) ?_
          intro v772 h773
          refine q_callVi hE (M' := mX12_readWhole) (as := [_, _]) dX12_readEvent_54 lk12_161 inX12_readWhole seX12_readWhole myX12_readWhole (by decide) ⟨by decide, by decide⟩ rfl (kR15 hS705.1 ta0) (Nat.le_of_ble_eq_true rfl) rfl rfl (by decide) (by decide) (fk_X12_readWhole hS705.1 (gB) ((tkN gB gs)) ta0 (TxA.kp hT hS705 ta0 rfl rfl rfl (by decide +kernel) (by decide +kernel)) (by (try rw [c733]); first | done | with_reducible assumption | omega) (by (try rw [c733]); first | done | with_reducible assumption | omega) (by (try rw [c736]); first | done | with_reducible assumption | omega) (by (try rw [c739]); first | done | with_reducible assumption | omega) (by (try rw [c741]); first | done | assumption) (by (try rw [c743]); first | done | assumption) (by (try rw [c745]); first | done | assumption) (by (try rw [((hS705.cell ta0 (by decide +kernel)).trans c26)]); first | done | with_reducible assumption | omega)) ?_
          rintro v779 cn' K' N' I774 R775 L776 ⟨rfl, rfl, rfl, rfl, g777, dj780, -⟩
          have hM781 : NmM I774 R0 L699 a1 gQ := NmM.kpS hM729 g777 hS705.1 ta1 (by decide +kernel) (by decide +kernel)
          have hS782 := hS705.tr g777 (by decide +kernel) (by decide +kernel)
          have c783 : I774 a1 2 = v37 := (g777.cell ta1 (by decide +kernel)).trans c706
          have hO784 : FrO 14 a1 T I0 I774 := hO707.st g777 (by decide +kernel)
          rcases dj780 with ⟨p785, p786, p787, p788, p789, p790, p791, p792, p793, p794, p795, p796, gl797, -⟩ | ⟨p798, p799, p800, p801, p802, -⟩ | ⟨p803, p804, p805, p806, p807, p808, -⟩
          · skip
            have hL809 := hL728.tr gl797 (by decide +kernel)
            have hM810 : NmM I774 R0 L776 a1 gQ := NmM.kpL hM781 gl797 hS782.1 ta1 (by decide +kernel)
            obtain ⟨v811, c812⟩ : ∃ v, I774 a0 13 = v := ⟨_, rfl⟩
            rw [c812] at p789
            rw [c731] at p789
            obtain ⟨v813, c814⟩ : ∃ v, I774 a0 9 = v := ⟨_, rfl⟩
            have b815 := iv15_9 hS782.1 ta0 c814
            rw [c814] at p790
            rw [c814] at p791
            obtain ⟨v816, c817⟩ : ∃ v, I774 a0 10 = v := ⟨_, rfl⟩
            have b818 := iv15_10 hS782.1 ta0 c817
            rw [c817] at p792
            obtain ⟨v819, c820⟩ : ∃ v, I774 a0 11 = v := ⟨_, rfl⟩
            rw [c820] at p793
            obtain ⟨y821, c822⟩ : ∃ v, L776 a0 15 = v := ⟨_, rfl⟩
            rw [c822] at p794
            obtain ⟨v823, c824⟩ : ∃ v, I774 a0 12 = v := ⟨_, rfl⟩
            rw [c824] at p795
            obtain ⟨v825, c826⟩ : ∃ v, I774 a0 8 = v := ⟨_, rfl⟩
            have b827 := iv15_8 hS782.1 ta0 c826
            rw [c826] at p796
            replace hF := hF.neg (by omega)
            replace hP := hP.neg (by omega)
            replace hF := hF.neg (by omega)
            replace hP := hP.neg (by omega)
            refine tr_istore_n dX12_readEvent_57 (by decide) (by decide) ?_
            refine tr_iload_n dX12_readEvent_58 rfl ?_
            refine q_iconst dX12_readEvent_59 (by decide) ?_
            intro v828 h829
            refine q_icmp_ne 69 dX12_readEvent_60 (by decide) (fun h830 => ?_) (fun h830 => ?_)
            · skip
              refine tr_aload_n dX12_readEvent_69 rfl ?_
              refine tr_ldcwS dX12_readEvent_70 ld12_272 ?_
              refine tr_iload_n dX12_readEvent_73 rfl ?_
              refine q_iconst dX12_readEvent_74 (by decide) ?_
              intro v831 h832
              refine q_iaddE dX12_readEvent_75 (by intros; omega) ?_
              intro v833 h834
              refine tr_aload_n dX12_readEvent_76 rfl ?_
              refine tr_getR dX12_readEvent_77 fl12_188 (kR15 hS782.1 ta0) d2 ?_
              refine q_getI dX12_readEvent_80 fl12_192 (kR14 hS782.1 ta1) ((hS782.cell ta1 (by decide +kernel)).trans c30) ?_
              refine q_callVi hE (M' := mX12_readPart) (as := [_, _, _]) dX12_readEvent_83 lk12_249 inX12_readPart seX12_readPart myX12_readPart (by decide) ⟨by decide, by decide⟩ rfl (kR15 hS782.1 ta0) (Nat.le_of_ble_eq_true rfl) rfl rfl (by decide) (by decide) (fk_X12_readPart hS782.1 (gB) ((tkN gB (tkN gB gs))) ta0 (by decide) (TxA.kp hT hS782 ta0 rfl rfl rfl (by decide +kernel) (by decide +kernel)) (by (try rw [c814]); first | done | with_reducible assumption | omega) (by (try rw [c814]); first | done | with_reducible assumption | omega) (by (try rw [c817]); first | done | with_reducible assumption | omega) (by (try rw [c820]); first | done | with_reducible assumption | omega) (by (try rw [c822]); first | done | assumption) (by (try rw [c824]); first | done | assumption) (by (try rw [c826]); first | done | assumption) (by (try rw [((hS782.cell ta0 (by decide +kernel)).trans c26)]); first | done | with_reducible assumption | omega)) ?_
              rintro v840 cn' K' N' I835 R836 L837 ⟨rfl, rfl, rfl, rfl, g838, dj841, -⟩
              (try rw [pk_25] at dj841)
              have hM842 : NmM I835 R0 L776 a1 gQ := NmM.kpS hM810 g838 hS782.1 ta1 (by decide +kernel) (by decide +kernel)
              have hS843 := hS782.tr g838 (by decide +kernel) (by decide +kernel)
              have c844 : I835 a1 2 = v37 := (g838.cell ta1 (by decide +kernel)).trans c783
              have hO845 : FrO 14 a1 T I0 I835 := hO784.st g838 (by decide +kernel)
              rcases dj841 with ⟨p846, p847, p848, p849, p850, p851, p852, p853, p854, p855, p856, p857, p858, p859, gl860, -⟩ | ⟨p861, p862, p863, p864, p865, -⟩ | ⟨p866, p867, p868, p869, p870, p871, p872, -⟩ | ⟨p873, p874, p875, p876, p877, p878, p879, p880, -⟩
              · skip
                have hL881 := hL809.tr gl860 (by decide +kernel)
                have hM882 : NmM I835 R0 L837 a1 gQ := NmM.kpL hM842 gl860 hS843.1 ta1 (by decide +kernel)
                obtain ⟨v883, c884⟩ : ∃ v, I835 a0 13 = v := ⟨_, rfl⟩
                rw [c884] at p852
                rw [c812] at p852
                obtain ⟨v885, c886⟩ : ∃ v, I835 a0 9 = v := ⟨_, rfl⟩
                have b887 := iv15_9 hS843.1 ta0 c886
                rw [c886] at p853
                rw [c886] at p854
                obtain ⟨v888, c889⟩ : ∃ v, I835 a0 10 = v := ⟨_, rfl⟩
                have b890 := iv15_10 hS843.1 ta0 c889
                rw [c889] at p855
                obtain ⟨v891, c892⟩ : ∃ v, I835 a0 11 = v := ⟨_, rfl⟩
                rw [c892] at p856
                obtain ⟨y893, c894⟩ : ∃ v, L837 a0 15 = v := ⟨_, rfl⟩
                rw [c894] at p857
                obtain ⟨v895, c896⟩ : ∃ v, I835 a0 12 = v := ⟨_, rfl⟩
                rw [c896] at p858
                obtain ⟨v897, c898⟩ : ∃ v, I835 a0 8 = v := ⟨_, rfl⟩
                have b899 := iv15_8 hS843.1 ta0 c898
                rw [c898] at p859
                replace hF := hF.neg (by omega)
                replace hP := hP.neg (by omega)
                replace hF := hF.neg (by omega)
                replace hP := hP.neg (by omega)
                replace hF := hF.neg (by omega)
                replace hP := hP.neg (by omega)
                refine tr_istore dX12_readEvent_86 (by decide) (by decide) ?_
                refine tr_aload_n dX12_readEvent_88 rfl ?_
                refine q_getI dX12_readEvent_89 fl12_99 (kR15 hS843.1 ta0) c886 ?_
                refine q_iconst dX12_readEvent_92 (by decide) ?_
                intro v900 h901
                refine q_icmp_ne 97 dX12_readEvent_93 (by decide) (fun h902 => ?_) (fun h902 => ?_)
                · skip
                  refine tr_aload_n dX12_readEvent_97 rfl ?_
                  refine tr_getR dX12_readEvent_98 fl12_188 (kR15 hS843.1 ta0) d2 ?_
                  refine q_getI dX12_readEvent_101 fl12_265 (kR14 hS843.1 ta1) c844 ?_
                  refine tr_istore dX12_readEvent_104 (by decide) (by decide) ?_
                  refine tr_aload_n dX12_readEvent_106 rfl ?_
                  refine tr_getR dX12_readEvent_107 fl12_188 (kR15 hS843.1 ta0) d2 ?_
                  refine tr_getR dX12_readEvent_110 fl12_274 (kR14 hS843.1 ta1) d67 ?_
                  refine tr_iload dX12_readEvent_113 rfl ?_
                  refine tr_iload_n dX12_readEvent_115 rfl ?_
                  refine q_iastX dX12_readEvent_116 (kR54 hS843.1 ta66) (ti_in (nR54 hS843.1 ta66) (by omega) (by omega)) hS843 ta66 (by rfl) (hS843.1.putK (m := a1) ta1 d67 (by rw [c844]; exact Int.le_of_eq (ti_nat (by omega)).symm)) ?_
                  intro I907 hS908 e909 f910
                  have c911 : I907 a1 2 = v37 := (f910 _ _ (fun q => by have z := ta1; rw [q.1, ta66] at z; exact absurd z (by decide))).trans c844
                  have c912 : I907 a0 13 = v883 := (f910 _ _ (fun q => by have z := ta0; rw [q.1, ta66] at z; exact absurd z (by decide))).trans c884
                  have c913 : I907 a0 9 = v885 := (f910 _ _ (fun q => by have z := ta0; rw [q.1, ta66] at z; exact absurd z (by decide))).trans c886
                  have c914 : I907 a0 10 = v888 := (f910 _ _ (fun q => by have z := ta0; rw [q.1, ta66] at z; exact absurd z (by decide))).trans c889
                  have c915 : I907 a0 11 = v891 := (f910 _ _ (fun q => by have z := ta0; rw [q.1, ta66] at z; exact absurd z (by decide))).trans c892
                  have c916 : I907 a0 12 = v895 := (f910 _ _ (fun q => by have z := ta0; rw [q.1, ta66] at z; exact absurd z (by decide))).trans c896
                  have c917 : I907 a0 8 = v897 := (f910 _ _ (fun q => by have z := ta0; rw [q.1, ta66] at z; exact absurd z (by decide))).trans c898
                  have hO918 : FrO 14 a1 T I0 I907 := hO845.put f910 ta66 (Or.inl (by decide))
                  have hM919 : NmM I907 R0 L837 a1 gQ := NmM.kp1 hM882 f910 ta66 rfl rfl hS843.1 ta1
                  refine tr_aload_n dX12_readEvent_117 rfl ?_
                  refine tr_getR dX12_readEvent_118 fl12_188 (kR15 hS908.1 ta0) d2 ?_
                  refine tr_getR dX12_readEvent_121 fl12_277 (kR14 hS908.1 ta1) d69 ?_
                  refine tr_iload dX12_readEvent_124 rfl ?_
                  refine tr_iload_n dX12_readEvent_126 rfl ?_
                  refine q_iastX dX12_readEvent_127 (kR55 hS908.1 ta68) (ti_in (nR55 hS908.1 ta68) (by omega) (by omega)) hS908 ta68 (by rfl) (hS908.1.putH (m := a1) ta1 d69 (by rw [c911]; exact Int.le_of_eq (ti_nat (by omega)).symm) (by omega)) ?_
                  intro I924 hS925 e926 f927
                  have c928 : I924 a1 2 = v37 := (f927 _ _ (fun q => by have z := ta1; rw [q.1, ta68] at z; exact absurd z (by decide))).trans c911
                  have c929 : I924 a0 13 = v883 := (f927 _ _ (fun q => by have z := ta0; rw [q.1, ta68] at z; exact absurd z (by decide))).trans c912
                  have c930 : I924 a0 9 = v885 := (f927 _ _ (fun q => by have z := ta0; rw [q.1, ta68] at z; exact absurd z (by decide))).trans c913
                  have c931 : I924 a0 10 = v888 := (f927 _ _ (fun q => by have z := ta0; rw [q.1, ta68] at z; exact absurd z (by decide))).trans c914
                  have c932 : I924 a0 11 = v891 := (f927 _ _ (fun q => by have z := ta0; rw [q.1, ta68] at z; exact absurd z (by decide))).trans c915
                  have c933 : I924 a0 12 = v895 := (f927 _ _ (fun q => by have z := ta0; rw [q.1, ta68] at z; exact absurd z (by decide))).trans c916
                  have c934 : I924 a0 8 = v897 := (f927 _ _ (fun q => by have z := ta0; rw [q.1, ta68] at z; exact absurd z (by decide))).trans c917
                  have c935 : I924 a66 v37.toNatClampNeg = x1 := (f927 _ _ (fun q => by have z := ta66; rw [q.1, ta68] at z; exact absurd z (by decide))).trans e909
                  have hO936 : FrO 14 a1 T I0 I924 := hO918.put f927 ta68 (Or.inl (by decide))
                  have hM937 : NmM I924 R0 L837 a1 gQ := NmM.kp1 hM919 f927 ta68 rfl rfl hS908.1 ta1
                  refine tr_aload_n dX12_readEvent_128 rfl ?_
                  refine tr_getR dX12_readEvent_129 fl12_188 (kR15 hS925.1 ta0) d2 ?_
                  refine tr_getR dX12_readEvent_132 fl12_280 (kR14 hS925.1 ta1) d71 ?_
                  refine tr_iload dX12_readEvent_135 rfl ?_
                  refine tr_iload_n dX12_readEvent_137 rfl ?_
                  refine q_iast dX12_readEvent_138 (kR56 hS925.1 ta70) (ti_in (nR56 hS925.1 ta70) (by omega) (by omega)) hS925 ta70 (by show (0 : Int) ≤ v779.toInt ∧ v779.toInt ≤ (240 : Int); omega) rfl (by rfl) ?_
                  intro I938 hS939 e941 f940
                  have c942 : I938 a1 2 = v37 := (f940 _ _ (fun q => by have z := ta1; rw [q.1, ta70] at z; exact absurd z (by decide))).trans c928
                  have c943 : I938 a0 13 = v883 := (f940 _ _ (fun q => by have z := ta0; rw [q.1, ta70] at z; exact absurd z (by decide))).trans c929
                  have c944 : I938 a0 9 = v885 := (f940 _ _ (fun q => by have z := ta0; rw [q.1, ta70] at z; exact absurd z (by decide))).trans c930
                  have c945 : I938 a0 10 = v888 := (f940 _ _ (fun q => by have z := ta0; rw [q.1, ta70] at z; exact absurd z (by decide))).trans c931
                  have c946 : I938 a0 11 = v891 := (f940 _ _ (fun q => by have z := ta0; rw [q.1, ta70] at z; exact absurd z (by decide))).trans c932
                  have c947 : I938 a0 12 = v895 := (f940 _ _ (fun q => by have z := ta0; rw [q.1, ta70] at z; exact absurd z (by decide))).trans c933
                  have c948 : I938 a0 8 = v897 := (f940 _ _ (fun q => by have z := ta0; rw [q.1, ta70] at z; exact absurd z (by decide))).trans c934
                  have c949 : I938 a66 v37.toNatClampNeg = x1 := (f940 _ _ (fun q => by have z := ta66; rw [q.1, ta70] at z; exact absurd z (by decide))).trans c935
                  have c950 : I938 a68 v37.toNatClampNeg = v766 := (f940 _ _ (fun q => by have z := ta68; rw [q.1, ta70] at z; exact absurd z (by decide))).trans e926
                  have hO951 : FrO 14 a1 T I0 I938 := hO936.put f940 ta70 (Or.inl (by decide))
                  have hM952 : NmM I938 R0 L837 a1 gQ := NmM.kp1 hM937 f940 ta70 rfl rfl hS925.1 ta1
                  refine tr_aload_n dX12_readEvent_139 rfl ?_
                  refine tr_getR dX12_readEvent_140 fl12_188 (kR15 hS939.1 ta0) d2 ?_
                  refine tr_getR dX12_readEvent_143 fl12_283 (kR14 hS939.1 ta1) d73 ?_
                  refine tr_iload dX12_readEvent_146 rfl ?_
                  refine tr_iload dX12_readEvent_148 rfl ?_
                  refine q_iast dX12_readEvent_150 (kR57 hS939.1 ta72) (ti_in (nR57 hS939.1 ta72) (by omega) (by omega)) hS939 ta72 (by show (0 : Int) ≤ v840.toInt ∧ v840.toInt ≤ (240 : Int); omega) rfl (by rfl) ?_
                  intro I953 hS954 e956 f955
                  have c957 : I953 a1 2 = v37 := (f955 _ _ (fun q => by have z := ta1; rw [q.1, ta72] at z; exact absurd z (by decide))).trans c942
                  have c958 : I953 a0 13 = v883 := (f955 _ _ (fun q => by have z := ta0; rw [q.1, ta72] at z; exact absurd z (by decide))).trans c943
                  have c959 : I953 a0 9 = v885 := (f955 _ _ (fun q => by have z := ta0; rw [q.1, ta72] at z; exact absurd z (by decide))).trans c944
                  have c960 : I953 a0 10 = v888 := (f955 _ _ (fun q => by have z := ta0; rw [q.1, ta72] at z; exact absurd z (by decide))).trans c945
                  have c961 : I953 a0 11 = v891 := (f955 _ _ (fun q => by have z := ta0; rw [q.1, ta72] at z; exact absurd z (by decide))).trans c946
                  have c962 : I953 a0 12 = v895 := (f955 _ _ (fun q => by have z := ta0; rw [q.1, ta72] at z; exact absurd z (by decide))).trans c947
                  have c963 : I953 a0 8 = v897 := (f955 _ _ (fun q => by have z := ta0; rw [q.1, ta72] at z; exact absurd z (by decide))).trans c948
                  have c964 : I953 a66 v37.toNatClampNeg = x1 := (f955 _ _ (fun q => by have z := ta66; rw [q.1, ta72] at z; exact absurd z (by decide))).trans c949
                  have c965 : I953 a68 v37.toNatClampNeg = v766 := (f955 _ _ (fun q => by have z := ta68; rw [q.1, ta72] at z; exact absurd z (by decide))).trans c950
                  have hO966 : FrO 14 a1 T I0 I953 := hO951.put f955 ta72 (Or.inl (by decide))
                  have hM967 : NmM I953 R0 L837 a1 gQ := NmM.kp1 hM952 f955 ta72 rfl rfl hS939.1 ta1
                  refine tr_aload_n dX12_readEvent_151 rfl ?_
                  refine tr_getR dX12_readEvent_152 fl12_188 (kR15 hS954.1 ta0) d2 ?_
                  refine tr_dup dX12_readEvent_155 rfl ?_
                  refine q_getI dX12_readEvent_156 fl12_265 (kR14 hS954.1 ta1) c957 ?_
                  refine q_iconst dX12_readEvent_159 (by decide) ?_
                  intro v968 h969
                  refine q_iaddE dX12_readEvent_160 (by intros; omega) ?_
                  intro v970 h971
                  refine q_putX dX12_readEvent_161 fl12_265 (kR14 hS954.1 ta1) (Or.inl rfl) hS954 ta1 (by decide +kernel) (hS954.1.putE (i := v37.toNatClampNeg) ta1 d67 d69 (by rw [c957]; exact (ti_nat (by omega)).symm) (by rw [c957]; omega) (by omega) (by rw [c964, c965]; omega)) ?_
                  intro I972 hS973 e974 f975
                  have c976 : I972 a0 13 = v883 := (f975 _ _ (fun q => absurd q.2 (by decide))).trans c958
                  have c977 : I972 a0 9 = v885 := (f975 _ _ (fun q => absurd q.2 (by decide))).trans c959
                  have c978 : I972 a0 10 = v888 := (f975 _ _ (fun q => absurd q.2 (by decide))).trans c960
                  have c979 : I972 a0 11 = v891 := (f975 _ _ (fun q => absurd q.2 (by decide))).trans c961
                  have c980 : I972 a0 12 = v895 := (f975 _ _ (fun q => absurd q.2 (by decide))).trans c962
                  have c981 : I972 a0 8 = v897 := (f975 _ _ (fun q => absurd q.2 (by decide))).trans c963
                  have c982 : I972 a66 v37.toNatClampNeg = x1 := (f975 _ _ (fun q => by have z := ta66; rw [q.1, ta1] at z; exact absurd z (by decide))).trans c964
                  have c983 : I972 a68 v37.toNatClampNeg = v766 := (f975 _ _ (fun q => by have z := ta68; rw [q.1, ta1] at z; exact absurd z (by decide))).trans c965
                  have hO984 : FrO 14 a1 T I0 I972 := hO966.put f975 ta1 (Or.inr rfl)
                  have hM985 : NmM I972 R0 L837 a1 gQ := NmM.kp1 hM967 f975 ta1 rfl rfl hS954.1 ta1
                  have eF := hF.eq
                  have eP := hP.eq
                  have es986 := evS_c0 (B := gB) (Q := gQ) (k := srt gB gs) (s := (tkN gB gs)) (by omega) (by omega)
                  obtain ⟨v987, c988⟩ : ∃ v, I972 a0 14 = v := ⟨_, rfl⟩
                  exact tr_vret hZ dX12_readEvent_164 rfl (by decide) (by decide) ⟨rfl, rfl, rfl, rfl, rfl, hS973, (fun b hb => (Option.some.inj (d2.symm.trans hb)) ▸ (((((((((FrM.rf (R := R0) (b := a1) (T := T)).st g700 (by decide +kernel)).st g777 (by decide +kernel)).st g838 (by decide +kernel)).pu f910 (by decide) (by decide) d67).pu f927 (by decide) (by decide) d69).pu f940 (by decide) (by decide) d71).pu f955 (by decide) (by decide) d73).put f975 ta1 (by decide))), (fun dr hd => (Option.some.inj (d2.symm.trans hd)) ▸ hO984), (Or.inl ⟨(by (try rw [w750]); (try rw [es986]); first | done | with_reducible assumption | omega), (fun q0 z0 => by obtain rfl := Option.some.inj ((d2).symm.trans z0); (try rw [w750]); (try rw [es986]); (try rw [((hS973.cell ta1 (by decide +kernel)).trans c30)]); first | done | with_reducible assumption | omega), (fun q0 z0 => by obtain rfl := Option.some.inj ((d2).symm.trans z0); (try rw [w750]); (try rw [es986]); (try rw [((hS973.cell ta1 (by decide +kernel)).trans c34)]); first | done | with_reducible assumption | omega), (fun q0 z0 => by obtain rfl := Option.some.inj ((d2).symm.trans z0); (try rw [w750]); (try rw [es986]); (try rw [e974]); first | done | with_reducible assumption | omega), (fun q0 z0 => by obtain rfl := Option.some.inj ((d2).symm.trans z0); (try rw [w750]); (try rw [es986]); (try rw [((hS973.cell ta1 (by decide +kernel)).trans c42)]); first | done | with_reducible assumption | omega), (fun q0 z0 => by obtain rfl := Option.some.inj ((d2).symm.trans z0); (try rw [w750]); (try rw [es986]); (try rw [((hS973.cell ta1 (by decide +kernel)).trans c46)]); first | done | with_reducible assumption | omega), (fun q0 z0 => by obtain rfl := Option.some.inj ((d2).symm.trans z0); (try rw [w750]); (try rw [es986]); (try rw [((hS973.cell ta1 (by decide +kernel)).trans c50)]); first | done | with_reducible assumption | omega), (fun q0 z0 => by obtain rfl := Option.some.inj ((d2).symm.trans z0); (try rw [w750]); (try rw [es986]); (try rw [((hS973.cell ta1 (by decide +kernel)).trans c54)]); first | done | with_reducible assumption | omega), (fun q0 z0 => by obtain rfl := Option.some.inj ((d2).symm.trans z0); (try rw [w750]); (try rw [es986]); (try rw [((hS973.cell ta1 (by decide +kernel)).trans c58)]); first | done | with_reducible assumption | omega), (by (try rw [w750]); (try rw [es986]); (try rw [c976]); (try rw [c65]); first | done | with_reducible assumption | omega), (by (try rw [w750]); (try rw [es986]); (try rw [c977]); first | done | with_reducible assumption | omega), (by (try rw [w750]); (try rw [es986]); (try rw [c977]); first | done | with_reducible assumption | omega), (by (try rw [w750]); (try rw [es986]); (try rw [c978]); first | done | with_reducible assumption | omega), (by (try rw [w750]); (try rw [es986]); (try rw [c979]); first | done | with_reducible assumption | omega), (by (try rw [w750]); (try rw [es986]); (try rw [c894]); first | done | assumption), (by (try rw [w750]); (try rw [es986]); (try rw [c980]); first | done | assumption), (by (try rw [w750]); (try rw [es986]); (try rw [c981]); first | done | assumption), hL881, (fun b hb => (Option.some.inj (d2.symm.trans hb)) ▸ NmM.ln (NmM.bd (k := srt gB gs) hM985 (by omega) (by omega)) rfl), (fun E b hb hE => by obtain rfl := Option.some.inj (d2.symm.trans hb); exact AlM.ev hE hW0 ta1 (by omega) (by omega) (by omega) (by omega) (hS973.cell ta1 (by decide +kernel)) (RoF.st (ex := xr 54 57) hS973 (by decide +kernel)) (fun f hf => match f, hf with | 0, _ => (fun a ha => by obtain rfl := Option.some.inj (d67.symm.trans ha); have zi : v37.toNatClampNeg = (gQ 2).toNat := congrArg Int.toNat (by omega); have ze := (Eq.trans ((f975 _ _ (fun q => by have z := ta66; rw [q.1, ta1] at z; exact absurd z (by decide))).trans ((f955 _ _ (fun q => by have z := ta66; rw [q.1, ta72] at z; exact absurd z (by decide))).trans ((f940 _ _ (fun q => by have z := ta66; rw [q.1, ta70] at z; exact absurd z (by decide))).trans (f927 _ _ (fun q => by have z := ta66; rw [q.1, ta68] at z; exact absurd z (by decide)))))) e909); rw [zi] at ze; exact ⟨by rw [ze]; simp only [evD, ↓reduceIte]; repeat' (first | split | omega), fun j hj => ((f975 _ _ (fun q => by have z := ta66; rw [q.1, ta1] at z; exact absurd z (by decide))).trans ((f955 _ _ (fun q => by have z := ta66; rw [q.1, ta72] at z; exact absurd z (by decide))).trans ((f940 _ _ (fun q => by have z := ta66; rw [q.1, ta70] at z; exact absurd z (by decide))).trans ((f927 _ _ (fun q => by have z := ta66; rw [q.1, ta68] at z; exact absurd z (by decide))).trans ((f910 _ _ (fun q => hj (q.2.trans zi))).trans ((g838.cell ta66 (wm_no (by decide +kernel))).trans ((g777.cell ta66 (wm_no (by decide +kernel))).trans (g700.cell ta66 (wm_no (by decide +kernel))))))))))⟩) | 1, _ => (fun a ha => by obtain rfl := Option.some.inj (d69.symm.trans ha); have zi : v37.toNatClampNeg = (gQ 2).toNat := congrArg Int.toNat (by omega); have ze := (Eq.trans ((f975 _ _ (fun q => by have z := ta68; rw [q.1, ta1] at z; exact absurd z (by decide))).trans ((f955 _ _ (fun q => by have z := ta68; rw [q.1, ta72] at z; exact absurd z (by decide))).trans (f940 _ _ (fun q => by have z := ta68; rw [q.1, ta70] at z; exact absurd z (by decide))))) e926); rw [zi] at ze; exact ⟨by rw [ze]; simp only [evD, ↓reduceIte]; repeat' (first | split | omega), fun j hj => ((f975 _ _ (fun q => by have z := ta68; rw [q.1, ta1] at z; exact absurd z (by decide))).trans ((f955 _ _ (fun q => by have z := ta68; rw [q.1, ta72] at z; exact absurd z (by decide))).trans ((f940 _ _ (fun q => by have z := ta68; rw [q.1, ta70] at z; exact absurd z (by decide))).trans ((f927 _ _ (fun q => hj (q.2.trans zi))).trans ((f910 _ _ (fun q => by have z := ta68; rw [q.1, ta66] at z; exact absurd z (by decide))).trans ((g838.cell ta68 (wm_no (by decide +kernel))).trans ((g777.cell ta68 (wm_no (by decide +kernel))).trans (g700.cell ta68 (wm_no (by decide +kernel))))))))))⟩) | 2, _ => (fun a ha => by obtain rfl := Option.some.inj (d71.symm.trans ha); have zi : v37.toNatClampNeg = (gQ 2).toNat := congrArg Int.toNat (by omega); have ze := (Eq.trans ((f975 _ _ (fun q => by have z := ta70; rw [q.1, ta1] at z; exact absurd z (by decide))).trans (f955 _ _ (fun q => by have z := ta70; rw [q.1, ta72] at z; exact absurd z (by decide)))) e941); rw [zi] at ze; exact ⟨by rw [ze]; simp only [evD, ↓reduceIte]; repeat' (first | split | omega), fun j hj => ((f975 _ _ (fun q => by have z := ta70; rw [q.1, ta1] at z; exact absurd z (by decide))).trans ((f955 _ _ (fun q => by have z := ta70; rw [q.1, ta72] at z; exact absurd z (by decide))).trans ((f940 _ _ (fun q => hj (q.2.trans zi))).trans ((f927 _ _ (fun q => by have z := ta70; rw [q.1, ta68] at z; exact absurd z (by decide))).trans ((f910 _ _ (fun q => by have z := ta70; rw [q.1, ta66] at z; exact absurd z (by decide))).trans ((g838.cell ta70 (wm_no (by decide +kernel))).trans ((g777.cell ta70 (wm_no (by decide +kernel))).trans (g700.cell ta70 (wm_no (by decide +kernel))))))))))⟩) | 3, _ => (fun a ha => by obtain rfl := Option.some.inj (d73.symm.trans ha); have zi : v37.toNatClampNeg = (gQ 2).toNat := congrArg Int.toNat (by omega); have ze := (Eq.trans (f975 _ _ (fun q => by have z := ta72; rw [q.1, ta1] at z; exact absurd z (by decide))) e956); rw [zi] at ze; exact ⟨by rw [ze]; simp only [evD, ↓reduceIte]; repeat' (first | split | omega), fun j hj => ((f975 _ _ (fun q => by have z := ta72; rw [q.1, ta1] at z; exact absurd z (by decide))).trans ((f955 _ _ (fun q => hj (q.2.trans zi))).trans ((f940 _ _ (fun q => by have z := ta72; rw [q.1, ta70] at z; exact absurd z (by decide))).trans ((f927 _ _ (fun q => by have z := ta72; rw [q.1, ta68] at z; exact absurd z (by decide))).trans ((f910 _ _ (fun q => by have z := ta72; rw [q.1, ta66] at z; exact absurd z (by decide))).trans ((g838.cell ta72 (wm_no (by decide +kernel))).trans ((g777.cell ta72 (wm_no (by decide +kernel))).trans (g700.cell ta72 (wm_no (by decide +kernel))))))))))⟩) | f + 4, h => absurd h (by omega))), trivial⟩), trivial⟩
                · skip
                  exfalso; omega
              · skip
                obtain ⟨v989, c990⟩ : ∃ v, I835 a0 9 = v := ⟨_, rfl⟩
                have b991 := iv15_9 hS843.1 ta0 c990
                rw [c990] at p863
                obtain ⟨v992, c993⟩ : ∃ v, I835 a0 13 = v := ⟨_, rfl⟩
                rw [c993] at p864
                obtain ⟨v994, c995⟩ : ∃ v, I835 a0 14 = v := ⟨_, rfl⟩
                rw [c995] at p865
                replace hF := hF.pos (by omega)
                replace hP := hP.pos (by omega)
                refine tr_istore dX12_readEvent_86 (by decide) (by decide) ?_
                refine tr_aload_n dX12_readEvent_88 rfl ?_
                refine q_getI dX12_readEvent_89 fl12_99 (kR15 hS843.1 ta0) c990 ?_
                refine q_iconst dX12_readEvent_92 (by decide) ?_
                intro v996 h997
                refine q_icmp_ne 97 dX12_readEvent_93 (by decide) (fun h998 => ?_) (fun h998 => ?_)
                · skip
                  exfalso; omega
                · skip
                  have eF := hF.eq
                  have eP := hP.eq
                  obtain ⟨v999, c1000⟩ : ∃ v, I835 a0 10 = v := ⟨_, rfl⟩
                  have b1001 := iv15_10 hS843.1 ta0 c1000
                  obtain ⟨v1002, c1003⟩ : ∃ v, I835 a0 11 = v := ⟨_, rfl⟩
                  obtain ⟨y1004, c1005⟩ : ∃ v, L837 a0 15 = v := ⟨_, rfl⟩
                  obtain ⟨v1006, c1007⟩ : ∃ v, I835 a0 12 = v := ⟨_, rfl⟩
                  obtain ⟨v1008, c1009⟩ : ∃ v, I835 a0 8 = v := ⟨_, rfl⟩
                  have b1010 := iv15_8 hS843.1 ta0 c1009
                  exact tr_vret hZ dX12_readEvent_96 rfl (by decide) (by decide) ⟨rfl, rfl, rfl, rfl, rfl, hS843, (fun b hb => (Option.some.inj (d2.symm.trans hb)) ▸ ((((FrM.rf (R := R0) (b := a1) (T := T)).st g700 (by decide +kernel)).st g777 (by decide +kernel)).st g838 (by decide +kernel))), (fun dr hd => (Option.some.inj (d2.symm.trans hd)) ▸ hO845), (Or.inr (⟨(by (try rw [w750]); first | done | with_reducible assumption | omega), (by (try rw [w750]); (try rw [c990]); first | done | with_reducible assumption | omega), (by (try rw [w750]); (try rw [c993]); first | done | with_reducible assumption | omega), (by (try rw [w750]); (try rw [c995]); first | done | with_reducible assumption | omega), trivial⟩)), trivial⟩
              · skip
                obtain ⟨v1011, c1012⟩ : ∃ v, I835 a0 9 = v := ⟨_, rfl⟩
                have b1013 := iv15_9 hS843.1 ta0 c1012
                rw [c1012] at p870
                obtain ⟨v1014, c1015⟩ : ∃ v, I835 a0 13 = v := ⟨_, rfl⟩
                rw [c1015] at p871
                obtain ⟨v1016, c1017⟩ : ∃ v, I835 a0 14 = v := ⟨_, rfl⟩
                rw [c1017] at p872
                replace hF := hF.neg (by omega)
                replace hP := hP.neg (by omega)
                replace hF := hF.pos (by omega)
                replace hP := hP.pos (by omega)
                refine tr_istore dX12_readEvent_86 (by decide) (by decide) ?_
                refine tr_aload_n dX12_readEvent_88 rfl ?_
                refine q_getI dX12_readEvent_89 fl12_99 (kR15 hS843.1 ta0) c1012 ?_
                refine q_iconst dX12_readEvent_92 (by decide) ?_
                intro v1018 h1019
                refine q_icmp_ne 97 dX12_readEvent_93 (by decide) (fun h1020 => ?_) (fun h1020 => ?_)
                · skip
                  exfalso; omega
                · skip
                  have eF := hF.eq
                  have eP := hP.eq
                  obtain ⟨v1021, c1022⟩ : ∃ v, I835 a0 10 = v := ⟨_, rfl⟩
                  have b1023 := iv15_10 hS843.1 ta0 c1022
                  obtain ⟨v1024, c1025⟩ : ∃ v, I835 a0 11 = v := ⟨_, rfl⟩
                  obtain ⟨y1026, c1027⟩ : ∃ v, L837 a0 15 = v := ⟨_, rfl⟩
                  obtain ⟨v1028, c1029⟩ : ∃ v, I835 a0 12 = v := ⟨_, rfl⟩
                  obtain ⟨v1030, c1031⟩ : ∃ v, I835 a0 8 = v := ⟨_, rfl⟩
                  have b1032 := iv15_8 hS843.1 ta0 c1031
                  exact tr_vret hZ dX12_readEvent_96 rfl (by decide) (by decide) ⟨rfl, rfl, rfl, rfl, rfl, hS843, (fun b hb => (Option.some.inj (d2.symm.trans hb)) ▸ ((((FrM.rf (R := R0) (b := a1) (T := T)).st g700 (by decide +kernel)).st g777 (by decide +kernel)).st g838 (by decide +kernel))), (fun dr hd => (Option.some.inj (d2.symm.trans hd)) ▸ hO845), (Or.inr (⟨(by (try rw [w750]); first | done | with_reducible assumption | omega), (by (try rw [w750]); (try rw [c1012]); first | done | with_reducible assumption | omega), (by (try rw [w750]); (try rw [c1015]); first | done | with_reducible assumption | omega), (by (try rw [w750]); (try rw [c1017]); first | done | with_reducible assumption | omega), trivial⟩)), trivial⟩
              · skip
                obtain ⟨v1033, c1034⟩ : ∃ v, I835 a0 9 = v := ⟨_, rfl⟩
                have b1035 := iv15_9 hS843.1 ta0 c1034
                rw [c1034] at p878
                obtain ⟨v1036, c1037⟩ : ∃ v, I835 a0 13 = v := ⟨_, rfl⟩
                rw [c1037] at p879
                obtain ⟨v1038, c1039⟩ : ∃ v, I835 a0 14 = v := ⟨_, rfl⟩
                rw [c1039] at p880
                replace hF := hF.neg (by omega)
                replace hP := hP.neg (by omega)
                replace hF := hF.neg (by omega)
                replace hP := hP.neg (by omega)
                replace hF := hF.pos (by omega)
                replace hP := hP.pos (by omega)
                refine tr_istore dX12_readEvent_86 (by decide) (by decide) ?_
                refine tr_aload_n dX12_readEvent_88 rfl ?_
                refine q_getI dX12_readEvent_89 fl12_99 (kR15 hS843.1 ta0) c1034 ?_
                refine q_iconst dX12_readEvent_92 (by decide) ?_
                intro v1040 h1041
                refine q_icmp_ne 97 dX12_readEvent_93 (by decide) (fun h1042 => ?_) (fun h1042 => ?_)
                · skip
                  exfalso; omega
                · skip
                  have eF := hF.eq
                  have eP := hP.eq
                  obtain ⟨v1043, c1044⟩ : ∃ v, I835 a0 10 = v := ⟨_, rfl⟩
                  have b1045 := iv15_10 hS843.1 ta0 c1044
                  obtain ⟨v1046, c1047⟩ : ∃ v, I835 a0 11 = v := ⟨_, rfl⟩
                  obtain ⟨y1048, c1049⟩ : ∃ v, L837 a0 15 = v := ⟨_, rfl⟩
                  obtain ⟨v1050, c1051⟩ : ∃ v, I835 a0 12 = v := ⟨_, rfl⟩
                  obtain ⟨v1052, c1053⟩ : ∃ v, I835 a0 8 = v := ⟨_, rfl⟩
                  have b1054 := iv15_8 hS843.1 ta0 c1053
                  exact tr_vret hZ dX12_readEvent_96 rfl (by decide) (by decide) ⟨rfl, rfl, rfl, rfl, rfl, hS843, (fun b hb => (Option.some.inj (d2.symm.trans hb)) ▸ ((((FrM.rf (R := R0) (b := a1) (T := T)).st g700 (by decide +kernel)).st g777 (by decide +kernel)).st g838 (by decide +kernel))), (fun dr hd => (Option.some.inj (d2.symm.trans hd)) ▸ hO845), (Or.inr (⟨(by (try rw [w750]); first | done | with_reducible assumption | omega), (by (try rw [w750]); (try rw [c1034]); first | done | with_reducible assumption | omega), (by (try rw [w750]); (try rw [c1037]); first | done | with_reducible assumption | omega), (by (try rw [w750]); (try rw [c1039]); first | done | with_reducible assumption | omega), trivial⟩)), trivial⟩
            · skip
              exfalso; omega
          · skip
            obtain ⟨v1055, c1056⟩ : ∃ v, I774 a0 9 = v := ⟨_, rfl⟩
            have b1057 := iv15_9 hS782.1 ta0 c1056
            rw [c1056] at p800
            obtain ⟨v1058, c1059⟩ : ∃ v, I774 a0 13 = v := ⟨_, rfl⟩
            rw [c1059] at p801
            obtain ⟨v1060, c1061⟩ : ∃ v, I774 a0 14 = v := ⟨_, rfl⟩
            rw [c1061] at p802
            replace hF := hF.pos (by omega)
            replace hP := hP.pos (by omega)
            refine tr_istore_n dX12_readEvent_57 (by decide) (by decide) ?_
            refine tr_iload_n dX12_readEvent_58 rfl ?_
            refine q_iconst dX12_readEvent_59 (by decide) ?_
            intro v1062 h1063
            refine q_icmp_ne 69 dX12_readEvent_60 (by decide) (fun h1064 => ?_) (fun h1064 => ?_)
            · skip
              refine tr_aload_n dX12_readEvent_69 rfl ?_
              refine tr_ldcwS dX12_readEvent_70 ld12_272 ?_
              refine tr_iload_n dX12_readEvent_73 rfl ?_
              refine q_iconst dX12_readEvent_74 (by decide) ?_
              intro v1065 h1066
              refine q_iaddE dX12_readEvent_75 (by intros; omega) ?_
              intro v1067 h1068
              refine tr_aload_n dX12_readEvent_76 rfl ?_
              refine tr_getR dX12_readEvent_77 fl12_188 (kR15 hS782.1 ta0) d2 ?_
              refine q_getI dX12_readEvent_80 fl12_192 (kR14 hS782.1 ta1) ((hS782.cell ta1 (by decide +kernel)).trans c30) ?_
              refine q_callVi hE (M' := mX12_readPart) (as := [_, _, _]) dX12_readEvent_83 lk12_249 inX12_readPart seX12_readPart myX12_readPart (by decide) ⟨by decide, by decide⟩ rfl (kR15 hS782.1 ta0) (Nat.le_of_ble_eq_true rfl) rfl rfl (by decide) (by decide) (k_X12_readPart hS782.1 ta0 (by decide)) ?_
              rintro v1073 cn' K' N' I1069 R1070 L1071 ⟨rfl, rfl, rfl, rfl, g1072, p1074, w1075, -⟩
              have hS1076 := hS782.tr g1072 (by decide +kernel) (by decide +kernel)
              have c1077 : I1069 a1 2 = v37 := (g1072.cell ta1 (by decide +kernel)).trans c783
              have b1078 : 1 ≤ v1073.toInt ∧ v1073.toInt ≤ 240 := by omega
              clear p1074
              have hO1079 : FrO 14 a1 T I0 I1069 := hO784.st g1072 (by decide +kernel)
              have ov1080 := w1075.over (by rw [c1056]; omega)
              obtain ⟨v1081, c1082⟩ : ∃ v, I1069 a0 9 = v := ⟨_, rfl⟩
              have b1083 := iv15_9 hS1076.1 ta0 c1082
              obtain ⟨v1084, c1085⟩ : ∃ v, I1069 a0 13 = v := ⟨_, rfl⟩
              obtain ⟨v1086, c1087⟩ : ∃ v, I1069 a0 14 = v := ⟨_, rfl⟩
              (try rw [c1082] at ov1080)
              (try rw [c1085] at ov1080)
              (try rw [c1087] at ov1080)
              (try rw [c1056] at ov1080)
              (try rw [c1059] at ov1080)
              (try rw [c1061] at ov1080)
              refine tr_istore dX12_readEvent_86 (by decide) (by decide) ?_
              refine tr_aload_n dX12_readEvent_88 rfl ?_
              refine q_getI dX12_readEvent_89 fl12_99 (kR15 hS1076.1 ta0) c1082 ?_
              refine q_iconst dX12_readEvent_92 (by decide) ?_
              intro v1088 h1089
              refine q_icmp_ne 97 dX12_readEvent_93 (by decide) (fun h1090 => ?_) (fun h1090 => ?_)
              · skip
                exfalso; omega
              · skip
                have eF := hF.eq
                have eP := hP.eq
                obtain ⟨v1091, c1092⟩ : ∃ v, I1069 a0 10 = v := ⟨_, rfl⟩
                have b1093 := iv15_10 hS1076.1 ta0 c1092
                obtain ⟨v1094, c1095⟩ : ∃ v, I1069 a0 11 = v := ⟨_, rfl⟩
                obtain ⟨y1096, c1097⟩ : ∃ v, L1071 a0 15 = v := ⟨_, rfl⟩
                obtain ⟨v1098, c1099⟩ : ∃ v, I1069 a0 12 = v := ⟨_, rfl⟩
                obtain ⟨v1100, c1101⟩ : ∃ v, I1069 a0 8 = v := ⟨_, rfl⟩
                have b1102 := iv15_8 hS1076.1 ta0 c1101
                exact tr_vret hZ dX12_readEvent_96 rfl (by decide) (by decide) ⟨rfl, rfl, rfl, rfl, rfl, hS1076, (fun b hb => (Option.some.inj (d2.symm.trans hb)) ▸ ((((FrM.rf (R := R0) (b := a1) (T := T)).st g700 (by decide +kernel)).st g777 (by decide +kernel)).st g1072 (by decide +kernel))), (fun dr hd => (Option.some.inj (d2.symm.trans hd)) ▸ hO1079), (Or.inr (⟨(by (try rw [w750]); first | done | with_reducible assumption | omega), (by (try rw [w750]); (try rw [c1082]); first | done | with_reducible assumption | omega), (by (try rw [w750]); (try rw [c1085]); first | done | with_reducible assumption | omega), (by (try rw [w750]); (try rw [c1087]); first | done | with_reducible assumption | omega), trivial⟩)), trivial⟩
            · skip
              exfalso; omega
          · skip
            obtain ⟨v1103, c1104⟩ : ∃ v, I774 a0 9 = v := ⟨_, rfl⟩
            have b1105 := iv15_9 hS782.1 ta0 c1104
            rw [c1104] at p806
            obtain ⟨v1106, c1107⟩ : ∃ v, I774 a0 13 = v := ⟨_, rfl⟩
            rw [c1107] at p807
            obtain ⟨v1108, c1109⟩ : ∃ v, I774 a0 14 = v := ⟨_, rfl⟩
            rw [c1109] at p808
            replace hF := hF.neg (by omega)
            replace hP := hP.neg (by omega)
            replace hF := hF.pos (by omega)
            replace hP := hP.pos (by omega)
            refine tr_istore_n dX12_readEvent_57 (by decide) (by decide) ?_
            refine tr_iload_n dX12_readEvent_58 rfl ?_
            refine q_iconst dX12_readEvent_59 (by decide) ?_
            intro v1110 h1111
            refine q_icmp_ne 69 dX12_readEvent_60 (by decide) (fun h1112 => ?_) (fun h1112 => ?_)
            · skip
              refine tr_aload_n dX12_readEvent_69 rfl ?_
              refine tr_ldcwS dX12_readEvent_70 ld12_272 ?_
              refine tr_iload_n dX12_readEvent_73 rfl ?_
              refine q_iconst dX12_readEvent_74 (by decide) ?_
              intro v1113 h1114
              refine q_iaddE dX12_readEvent_75 (by intros; omega) ?_
              intro v1115 h1116
              refine tr_aload_n dX12_readEvent_76 rfl ?_
              refine tr_getR dX12_readEvent_77 fl12_188 (kR15 hS782.1 ta0) d2 ?_
              refine q_getI dX12_readEvent_80 fl12_192 (kR14 hS782.1 ta1) ((hS782.cell ta1 (by decide +kernel)).trans c30) ?_
              refine q_callVi hE (M' := mX12_readPart) (as := [_, _, _]) dX12_readEvent_83 lk12_249 inX12_readPart seX12_readPart myX12_readPart (by decide) ⟨by decide, by decide⟩ rfl (kR15 hS782.1 ta0) (Nat.le_of_ble_eq_true rfl) rfl rfl (by decide) (by decide) (k_X12_readPart hS782.1 ta0 (by decide)) ?_
              rintro v1121 cn' K' N' I1117 R1118 L1119 ⟨rfl, rfl, rfl, rfl, g1120, p1122, w1123, -⟩
              have hS1124 := hS782.tr g1120 (by decide +kernel) (by decide +kernel)
              have c1125 : I1117 a1 2 = v37 := (g1120.cell ta1 (by decide +kernel)).trans c783
              have b1126 : 1 ≤ v1121.toInt ∧ v1121.toInt ≤ 240 := by omega
              clear p1122
              have hO1127 : FrO 14 a1 T I0 I1117 := hO784.st g1120 (by decide +kernel)
              have ov1128 := w1123.over (by rw [c1104]; omega)
              obtain ⟨v1129, c1130⟩ : ∃ v, I1117 a0 9 = v := ⟨_, rfl⟩
              have b1131 := iv15_9 hS1124.1 ta0 c1130
              obtain ⟨v1132, c1133⟩ : ∃ v, I1117 a0 13 = v := ⟨_, rfl⟩
              obtain ⟨v1134, c1135⟩ : ∃ v, I1117 a0 14 = v := ⟨_, rfl⟩
              (try rw [c1130] at ov1128)
              (try rw [c1133] at ov1128)
              (try rw [c1135] at ov1128)
              (try rw [c1104] at ov1128)
              (try rw [c1107] at ov1128)
              (try rw [c1109] at ov1128)
              refine tr_istore dX12_readEvent_86 (by decide) (by decide) ?_
              refine tr_aload_n dX12_readEvent_88 rfl ?_
              refine q_getI dX12_readEvent_89 fl12_99 (kR15 hS1124.1 ta0) c1130 ?_
              refine q_iconst dX12_readEvent_92 (by decide) ?_
              intro v1136 h1137
              refine q_icmp_ne 97 dX12_readEvent_93 (by decide) (fun h1138 => ?_) (fun h1138 => ?_)
              · skip
                exfalso; omega
              · skip
                have eF := hF.eq
                have eP := hP.eq
                obtain ⟨v1139, c1140⟩ : ∃ v, I1117 a0 10 = v := ⟨_, rfl⟩
                have b1141 := iv15_10 hS1124.1 ta0 c1140
                obtain ⟨v1142, c1143⟩ : ∃ v, I1117 a0 11 = v := ⟨_, rfl⟩
                obtain ⟨y1144, c1145⟩ : ∃ v, L1119 a0 15 = v := ⟨_, rfl⟩
                obtain ⟨v1146, c1147⟩ : ∃ v, I1117 a0 12 = v := ⟨_, rfl⟩
                obtain ⟨v1148, c1149⟩ : ∃ v, I1117 a0 8 = v := ⟨_, rfl⟩
                have b1150 := iv15_8 hS1124.1 ta0 c1149
                exact tr_vret hZ dX12_readEvent_96 rfl (by decide) (by decide) ⟨rfl, rfl, rfl, rfl, rfl, hS1124, (fun b hb => (Option.some.inj (d2.symm.trans hb)) ▸ ((((FrM.rf (R := R0) (b := a1) (T := T)).st g700 (by decide +kernel)).st g777 (by decide +kernel)).st g1120 (by decide +kernel))), (fun dr hd => (Option.some.inj (d2.symm.trans hd)) ▸ hO1127), (Or.inr (⟨(by (try rw [w750]); first | done | with_reducible assumption | omega), (by (try rw [w750]); (try rw [c1130]); first | done | with_reducible assumption | omega), (by (try rw [w750]); (try rw [c1133]); first | done | with_reducible assumption | omega), (by (try rw [w750]); (try rw [c1135]); first | done | with_reducible assumption | omega), trivial⟩)), trivial⟩
            · skip
              exfalso; omega
        · skip
          exfalso; omega
    · skip
      obtain ⟨v1151, c1152⟩ : ∃ v, I697 a0 9 = v := ⟨_, rfl⟩
      have b1153 := iv15_9 hS705.1 ta0 c1152
      rw [c1152] at p720
      obtain ⟨v1154, c1155⟩ : ∃ v, I697 a0 13 = v := ⟨_, rfl⟩
      rw [c1155] at p721
      obtain ⟨v1156, c1157⟩ : ∃ v, I697 a0 14 = v := ⟨_, rfl⟩
      rw [c1157] at p722
      have p1158 := p61
      unfold Q7M at p1158
      replace hF := hF.pos (by omega)
      replace hP := hP.pos (by omega)
      clear p1158
      refine tr_iload_n dX12_readEvent_13 rfl ?_
      refine q_iconst dX12_readEvent_14 (by decide) ?_
      intro v1159 h1160
      refine q_icmp_eq 23 dX12_readEvent_15 (by decide) (fun h1161 => ?_) (fun h1161 => ?_)
      · skip
        exfalso; omega
      · skip
        refine tr_iload_n dX12_readEvent_18 rfl ?_
        refine q_iconst dX12_readEvent_19 (by decide) ?_
        intro v1162 h1163
        refine q_icmp_ne 40 dX12_readEvent_20 (by decide) (fun h1164 => ?_) (fun h1164 => ?_)
        · skip
          refine q_bipush dX12_readEvent_40 (by decide +kernel) ?_
          intro v1165 h1166
          refine tr_istore_n dX12_readEvent_42 (by decide) (by decide) ?_
          refine tr_aload_n dX12_readEvent_43 rfl ?_
          refine q_iconst dX12_readEvent_44 (by decide) ?_
          intro v1167 h1168
          refine tr_aload_n dX12_readEvent_45 rfl ?_
          refine tr_getR dX12_readEvent_46 fl12_188 (kR15 hS705.1 ta0) d2 ?_
          refine q_getI dX12_readEvent_49 fl12_192 (kR14 hS705.1 ta1) ((hS705.cell ta1 (by decide +kernel)).trans c30) ?_
          refine q_iconst dX12_readEvent_52 (by decide) ?_
          intro v1169 h1170
          refine q_isubE dX12_readEvent_53 (by intros; omega) ?_
          intro v1171 h1172
          refine q_callVi hE (M' := mX12_readWhole) (as := [_, _]) dX12_readEvent_54 lk12_161 inX12_readWhole seX12_readWhole myX12_readWhole (by decide) ⟨by decide, by decide⟩ rfl (kR15 hS705.1 ta0) (Nat.le_of_ble_eq_true rfl) rfl rfl (by decide) (by decide) (k_X12_readWhole hS705.1 ta0) ?_
          rintro v1177 cn' K' N' I1173 R1174 L1175 ⟨rfl, rfl, rfl, rfl, g1176, p1178, w1179, -⟩
          have hS1180 := hS705.tr g1176 (by decide +kernel) (by decide +kernel)
          have c1181 : I1173 a1 2 = v37 := (g1176.cell ta1 (by decide +kernel)).trans c706
          have b1182 : 0 ≤ v1177.toInt ∧ v1177.toInt ≤ 239 := by omega
          clear p1178
          have hO1183 : FrO 14 a1 T I0 I1173 := hO707.st g1176 (by decide +kernel)
          have ov1184 := w1179.over (by rw [c1152]; omega)
          obtain ⟨v1185, c1186⟩ : ∃ v, I1173 a0 9 = v := ⟨_, rfl⟩
          have b1187 := iv15_9 hS1180.1 ta0 c1186
          obtain ⟨v1188, c1189⟩ : ∃ v, I1173 a0 13 = v := ⟨_, rfl⟩
          obtain ⟨v1190, c1191⟩ : ∃ v, I1173 a0 14 = v := ⟨_, rfl⟩
          (try rw [c1186] at ov1184)
          (try rw [c1189] at ov1184)
          (try rw [c1191] at ov1184)
          (try rw [c1152] at ov1184)
          (try rw [c1155] at ov1184)
          (try rw [c1157] at ov1184)
          refine tr_istore_n dX12_readEvent_57 (by decide) (by decide) ?_
          refine tr_iload_n dX12_readEvent_58 rfl ?_
          refine q_iconst dX12_readEvent_59 (by decide) ?_
          intro v1192 h1193
          refine q_icmp_ne 69 dX12_readEvent_60 (by decide) (fun h1194 => ?_) (fun h1194 => ?_)
          · skip
            refine tr_aload_n dX12_readEvent_69 rfl ?_
            refine tr_ldcwS dX12_readEvent_70 ld12_272 ?_
            refine tr_iload_n dX12_readEvent_73 rfl ?_
            refine q_iconst dX12_readEvent_74 (by decide) ?_
            intro v1195 h1196
            refine q_iaddE dX12_readEvent_75 (by intros; omega) ?_
            intro v1197 h1198
            refine tr_aload_n dX12_readEvent_76 rfl ?_
            refine tr_getR dX12_readEvent_77 fl12_188 (kR15 hS1180.1 ta0) d2 ?_
            refine q_getI dX12_readEvent_80 fl12_192 (kR14 hS1180.1 ta1) ((hS1180.cell ta1 (by decide +kernel)).trans c30) ?_
            refine q_callVi hE (M' := mX12_readPart) (as := [_, _, _]) dX12_readEvent_83 lk12_249 inX12_readPart seX12_readPart myX12_readPart (by decide) ⟨by decide, by decide⟩ rfl (kR15 hS1180.1 ta0) (Nat.le_of_ble_eq_true rfl) rfl rfl (by decide) (by decide) (k_X12_readPart hS1180.1 ta0 (by decide)) ?_
            rintro v1203 cn' K' N' I1199 R1200 L1201 ⟨rfl, rfl, rfl, rfl, g1202, p1204, w1205, -⟩
            have hS1206 := hS1180.tr g1202 (by decide +kernel) (by decide +kernel)
            have c1207 : I1199 a1 2 = v37 := (g1202.cell ta1 (by decide +kernel)).trans c1181
            have b1208 : 1 ≤ v1203.toInt ∧ v1203.toInt ≤ 240 := by omega
            clear p1204
            have hO1209 : FrO 14 a1 T I0 I1199 := hO1183.st g1202 (by decide +kernel)
            have ov1210 := w1205.over (by rw [c1186]; omega)
            obtain ⟨v1211, c1212⟩ : ∃ v, I1199 a0 9 = v := ⟨_, rfl⟩
            have b1213 := iv15_9 hS1206.1 ta0 c1212
            obtain ⟨v1214, c1215⟩ : ∃ v, I1199 a0 13 = v := ⟨_, rfl⟩
            obtain ⟨v1216, c1217⟩ : ∃ v, I1199 a0 14 = v := ⟨_, rfl⟩
            (try rw [c1212] at ov1210)
            (try rw [c1215] at ov1210)
            (try rw [c1217] at ov1210)
            (try rw [c1186] at ov1210)
            (try rw [c1189] at ov1210)
            (try rw [c1191] at ov1210)
            refine tr_istore dX12_readEvent_86 (by decide) (by decide) ?_
            refine tr_aload_n dX12_readEvent_88 rfl ?_
            refine q_getI dX12_readEvent_89 fl12_99 (kR15 hS1206.1 ta0) c1212 ?_
            refine q_iconst dX12_readEvent_92 (by decide) ?_
            intro v1218 h1219
            refine q_icmp_ne 97 dX12_readEvent_93 (by decide) (fun h1220 => ?_) (fun h1220 => ?_)
            · skip
              exfalso; omega
            · skip
              have eF := hF.eq
              have eP := hP.eq
              obtain ⟨v1221, c1222⟩ : ∃ v, I1199 a0 10 = v := ⟨_, rfl⟩
              have b1223 := iv15_10 hS1206.1 ta0 c1222
              obtain ⟨v1224, c1225⟩ : ∃ v, I1199 a0 11 = v := ⟨_, rfl⟩
              obtain ⟨y1226, c1227⟩ : ∃ v, L1201 a0 15 = v := ⟨_, rfl⟩
              obtain ⟨v1228, c1229⟩ : ∃ v, I1199 a0 12 = v := ⟨_, rfl⟩
              obtain ⟨v1230, c1231⟩ : ∃ v, I1199 a0 8 = v := ⟨_, rfl⟩
              have b1232 := iv15_8 hS1206.1 ta0 c1231
              exact tr_vret hZ dX12_readEvent_96 rfl (by decide) (by decide) ⟨rfl, rfl, rfl, rfl, rfl, hS1206, (fun b hb => (Option.some.inj (d2.symm.trans hb)) ▸ ((((FrM.rf (R := R0) (b := a1) (T := T)).st g700 (by decide +kernel)).st g1176 (by decide +kernel)).st g1202 (by decide +kernel))), (fun dr hd => (Option.some.inj (d2.symm.trans hd)) ▸ hO1209), (Or.inr (⟨(by first | done | with_reducible assumption | omega), (by (try rw [c1212]); first | done | with_reducible assumption | omega), (by (try rw [c1215]); first | done | with_reducible assumption | omega), (by (try rw [c1217]); first | done | with_reducible assumption | omega), trivial⟩)), trivial⟩
          · skip
            exfalso; omega
        · skip
          exfalso; omega
    · skip
      obtain ⟨v1233, c1234⟩ : ∃ v, I697 a0 9 = v := ⟨_, rfl⟩
      have b1235 := iv15_9 hS705.1 ta0 c1234
      rw [c1234] at p725
      obtain ⟨v1236, c1237⟩ : ∃ v, I697 a0 13 = v := ⟨_, rfl⟩
      rw [c1237] at p726
      obtain ⟨v1238, c1239⟩ : ∃ v, I697 a0 14 = v := ⟨_, rfl⟩
      rw [c1239] at p727
      have p1240 := p61
      unfold Q7M at p1240
      replace hF := hF.neg (by omega)
      replace hP := hP.neg (by omega)
      replace hF := hF.pos (by omega)
      replace hP := hP.pos (by omega)
      clear p1240
      refine tr_iload_n dX12_readEvent_13 rfl ?_
      refine q_iconst dX12_readEvent_14 (by decide) ?_
      intro v1241 h1242
      refine q_icmp_eq 23 dX12_readEvent_15 (by decide) (fun h1243 => ?_) (fun h1243 => ?_)
      · skip
        exfalso; omega
      · skip
        refine tr_iload_n dX12_readEvent_18 rfl ?_
        refine q_iconst dX12_readEvent_19 (by decide) ?_
        intro v1244 h1245
        refine q_icmp_ne 40 dX12_readEvent_20 (by decide) (fun h1246 => ?_) (fun h1246 => ?_)
        · skip
          refine q_bipush dX12_readEvent_40 (by decide +kernel) ?_
          intro v1247 h1248
          refine tr_istore_n dX12_readEvent_42 (by decide) (by decide) ?_
          refine tr_aload_n dX12_readEvent_43 rfl ?_
          refine q_iconst dX12_readEvent_44 (by decide) ?_
          intro v1249 h1250
          refine tr_aload_n dX12_readEvent_45 rfl ?_
          refine tr_getR dX12_readEvent_46 fl12_188 (kR15 hS705.1 ta0) d2 ?_
          refine q_getI dX12_readEvent_49 fl12_192 (kR14 hS705.1 ta1) ((hS705.cell ta1 (by decide +kernel)).trans c30) ?_
          refine q_iconst dX12_readEvent_52 (by decide) ?_
          intro v1251 h1252
          refine q_isubE dX12_readEvent_53 (by intros; omega) ?_
          intro v1253 h1254
          refine q_callVi hE (M' := mX12_readWhole) (as := [_, _]) dX12_readEvent_54 lk12_161 inX12_readWhole seX12_readWhole myX12_readWhole (by decide) ⟨by decide, by decide⟩ rfl (kR15 hS705.1 ta0) (Nat.le_of_ble_eq_true rfl) rfl rfl (by decide) (by decide) (k_X12_readWhole hS705.1 ta0) ?_
          rintro v1259 cn' K' N' I1255 R1256 L1257 ⟨rfl, rfl, rfl, rfl, g1258, p1260, w1261, -⟩
          have hS1262 := hS705.tr g1258 (by decide +kernel) (by decide +kernel)
          have c1263 : I1255 a1 2 = v37 := (g1258.cell ta1 (by decide +kernel)).trans c706
          have b1264 : 0 ≤ v1259.toInt ∧ v1259.toInt ≤ 0 := by omega
          clear p1260
          have hO1265 : FrO 14 a1 T I0 I1255 := hO707.st g1258 (by decide +kernel)
          have ov1266 := w1261.over (by rw [c1234]; omega)
          obtain ⟨v1267, c1268⟩ : ∃ v, I1255 a0 9 = v := ⟨_, rfl⟩
          have b1269 := iv15_9 hS1262.1 ta0 c1268
          obtain ⟨v1270, c1271⟩ : ∃ v, I1255 a0 13 = v := ⟨_, rfl⟩
          obtain ⟨v1272, c1273⟩ : ∃ v, I1255 a0 14 = v := ⟨_, rfl⟩
          (try rw [c1268] at ov1266)
          (try rw [c1271] at ov1266)
          (try rw [c1273] at ov1266)
          (try rw [c1234] at ov1266)
          (try rw [c1237] at ov1266)
          (try rw [c1239] at ov1266)
          refine tr_istore_n dX12_readEvent_57 (by decide) (by decide) ?_
          refine tr_iload_n dX12_readEvent_58 rfl ?_
          refine q_iconst dX12_readEvent_59 (by decide) ?_
          intro v1274 h1275
          refine q_icmp_ne 69 dX12_readEvent_60 (by decide) (fun h1276 => ?_) (fun h1276 => ?_)
          · skip
            refine tr_aload_n dX12_readEvent_69 rfl ?_
            refine tr_ldcwS dX12_readEvent_70 ld12_272 ?_
            refine tr_iload_n dX12_readEvent_73 rfl ?_
            refine q_iconst dX12_readEvent_74 (by decide) ?_
            intro v1277 h1278
            refine q_iaddE dX12_readEvent_75 (by intros; omega) ?_
            intro v1279 h1280
            refine tr_aload_n dX12_readEvent_76 rfl ?_
            refine tr_getR dX12_readEvent_77 fl12_188 (kR15 hS1262.1 ta0) d2 ?_
            refine q_getI dX12_readEvent_80 fl12_192 (kR14 hS1262.1 ta1) ((hS1262.cell ta1 (by decide +kernel)).trans c30) ?_
            refine q_callVi hE (M' := mX12_readPart) (as := [_, _, _]) dX12_readEvent_83 lk12_249 inX12_readPart seX12_readPart myX12_readPart (by decide) ⟨by decide, by decide⟩ rfl (kR15 hS1262.1 ta0) (Nat.le_of_ble_eq_true rfl) rfl rfl (by decide) (by decide) (k_X12_readPart hS1262.1 ta0 (by decide)) ?_
            rintro v1285 cn' K' N' I1281 R1282 L1283 ⟨rfl, rfl, rfl, rfl, g1284, p1286, w1287, -⟩
            have hS1288 := hS1262.tr g1284 (by decide +kernel) (by decide +kernel)
            have c1289 : I1281 a1 2 = v37 := (g1284.cell ta1 (by decide +kernel)).trans c1263
            have b1290 : 1 ≤ v1285.toInt ∧ v1285.toInt ≤ 1 := by omega
            clear p1286
            have hO1291 : FrO 14 a1 T I0 I1281 := hO1265.st g1284 (by decide +kernel)
            have ov1292 := w1287.over (by rw [c1268]; omega)
            obtain ⟨v1293, c1294⟩ : ∃ v, I1281 a0 9 = v := ⟨_, rfl⟩
            have b1295 := iv15_9 hS1288.1 ta0 c1294
            obtain ⟨v1296, c1297⟩ : ∃ v, I1281 a0 13 = v := ⟨_, rfl⟩
            obtain ⟨v1298, c1299⟩ : ∃ v, I1281 a0 14 = v := ⟨_, rfl⟩
            (try rw [c1294] at ov1292)
            (try rw [c1297] at ov1292)
            (try rw [c1299] at ov1292)
            (try rw [c1268] at ov1292)
            (try rw [c1271] at ov1292)
            (try rw [c1273] at ov1292)
            refine tr_istore dX12_readEvent_86 (by decide) (by decide) ?_
            refine tr_aload_n dX12_readEvent_88 rfl ?_
            refine q_getI dX12_readEvent_89 fl12_99 (kR15 hS1288.1 ta0) c1294 ?_
            refine q_iconst dX12_readEvent_92 (by decide) ?_
            intro v1300 h1301
            refine q_icmp_ne 97 dX12_readEvent_93 (by decide) (fun h1302 => ?_) (fun h1302 => ?_)
            · skip
              exfalso; omega
            · skip
              have eF := hF.eq
              have eP := hP.eq
              obtain ⟨v1303, c1304⟩ : ∃ v, I1281 a0 10 = v := ⟨_, rfl⟩
              have b1305 := iv15_10 hS1288.1 ta0 c1304
              obtain ⟨v1306, c1307⟩ : ∃ v, I1281 a0 11 = v := ⟨_, rfl⟩
              obtain ⟨y1308, c1309⟩ : ∃ v, L1283 a0 15 = v := ⟨_, rfl⟩
              obtain ⟨v1310, c1311⟩ : ∃ v, I1281 a0 12 = v := ⟨_, rfl⟩
              obtain ⟨v1312, c1313⟩ : ∃ v, I1281 a0 8 = v := ⟨_, rfl⟩
              have b1314 := iv15_8 hS1288.1 ta0 c1313
              exact tr_vret hZ dX12_readEvent_96 rfl (by decide) (by decide) ⟨rfl, rfl, rfl, rfl, rfl, hS1288, (fun b hb => (Option.some.inj (d2.symm.trans hb)) ▸ ((((FrM.rf (R := R0) (b := a1) (T := T)).st g700 (by decide +kernel)).st g1258 (by decide +kernel)).st g1284 (by decide +kernel))), (fun dr hd => (Option.some.inj (d2.symm.trans hd)) ▸ hO1291), (Or.inr (⟨(by first | done | with_reducible assumption | omega), (by (try rw [c1294]); first | done | with_reducible assumption | omega), (by (try rw [c1297]); first | done | with_reducible assumption | omega), (by (try rw [c1299]); first | done | with_reducible assumption | omega), trivial⟩)), trivial⟩
          · skip
            exfalso; omega
        · skip
          exfalso; omega
  · skip
    refine tr_aload_n dX12_readEvent_0 rfl ?_
    refine tr_aload_n dX12_readEvent_1 rfl ?_
    refine tr_getR dX12_readEvent_2 fl12_188 (kR15 hS0.1 ta0) d2 ?_
    refine q_getI dX12_readEvent_5 fl12_265 (kR14 hS0.1 ta1) c38 ?_
    refine q_bipush dX12_readEvent_8 (by decide +kernel) ?_
    intro v1315 h1316
    refine q_callVv hE (M' := mX12_begins) (as := [_, _]) dX12_readEvent_10 lk12_268 inX12_begins seX12_begins myX12_begins (by decide) ⟨by decide, by decide⟩ rfl (kR15 hS0.1 ta0) (Nat.le_of_ble_eq_true rfl) rfl rfl (by decide) (by decide) (fk_X12_begins hS0.1 (gB) (gs) (gQ) ta0 (TxA.kp hT hS0 ta0 rfl rfl rfl (by decide +kernel) (by decide +kernel)) (by (try rw [c4]); first | done | with_reducible assumption | omega) (by (try rw [c4]); first | done | with_reducible assumption | omega) (by (try rw [c9]); first | done | with_reducible assumption | omega) (by (try rw [c13]); first | done | with_reducible assumption | omega) (by (try rw [c16]); first | done | assumption) (by (try rw [c19]); first | done | assumption) (by (try rw [c22]); first | done | assumption) (by (try rw [c26]); first | done | with_reducible assumption | omega) (fun q0 z0 => by obtain rfl := Option.some.inj ((d2).symm.trans z0); (try rw [c30]); first | done | with_reducible assumption | omega) (by first | done | with_reducible assumption | omega) ⟨_, d2⟩) ?_
    rintro cn' K' N' I1317 R1318 L1319 ⟨rfl, rfl, rfl, rfl, g1320, dj1323, -⟩
    have hM1324 : NmM I1317 R0 L0 a1 gQ := NmM.kpS hM0 g1320 hS0.1 ta1 (by decide +kernel) (by decide +kernel)
    have hS1325 := hS0.tr g1320 (by decide +kernel) (by decide +kernel)
    have c1326 : I1317 a1 2 = v37 := (g1320.cell ta1 (by decide +kernel)).trans c38
    have hO1327 : FrO 14 a1 T I0 I1317 := hO0.st g1320 (by decide +kernel)
    rcases dj1323 with ⟨p1328, p1329, p1330, p1331, p1332, p1333, p1334, p1335, p1336, p1337, gl1338, -⟩ | ⟨p1339, p1340, p1341, p1342, -⟩ | ⟨p1343, p1344, p1345, p1346, p1347, -⟩
    · skip
      have hL1348 := hL0.tr gl1338 (by decide +kernel)
      have hM1349 : NmM I1317 R0 L1319 a1 gQ := NmM.kpL hM1324 gl1338 hS1325.1 ta1 (by decide +kernel)
      obtain ⟨v1350, c1351⟩ : ∃ v, I1317 a0 13 = v := ⟨_, rfl⟩
      rw [c1351] at p1330
      rw [c65] at p1330
      obtain ⟨v1352, c1353⟩ : ∃ v, I1317 a0 9 = v := ⟨_, rfl⟩
      have b1354 := iv15_9 hS1325.1 ta0 c1353
      rw [c1353] at p1331
      rw [c1353] at p1332
      obtain ⟨v1355, c1356⟩ : ∃ v, I1317 a0 10 = v := ⟨_, rfl⟩
      have b1357 := iv15_10 hS1325.1 ta0 c1356
      rw [c1356] at p1333
      obtain ⟨v1358, c1359⟩ : ∃ v, I1317 a0 11 = v := ⟨_, rfl⟩
      rw [c1359] at p1334
      obtain ⟨y1360, c1361⟩ : ∃ v, L1319 a0 15 = v := ⟨_, rfl⟩
      rw [c1361] at p1335
      obtain ⟨v1362, c1363⟩ : ∃ v, I1317 a0 12 = v := ⟨_, rfl⟩
      rw [c1363] at p1336
      obtain ⟨v1364, c1365⟩ : ∃ v, I1317 a0 8 = v := ⟨_, rfl⟩
      have b1366 := iv15_8 hS1325.1 ta0 c1365
      rw [c1365] at p1337
      have p1367 := p61
      unfold Q7M at p1367
      replace hF := hF.neg (by omega)
      replace hP := hP.neg (by omega)
      replace hF := hF.neg (by omega)
      replace hP := hP.neg (by omega)
      clear p1367
      obtain ⟨w1368, w1369, w1370, w1371, w1372, w1373, w1374, w1375, w1376, w1377, w1378, w1379⟩ := lnl_e (B := gB) (Q := gQ) (s := gs) (by omega) (by omega)
      replace hF := hF.to w1368 (evF_c2 (B := gB) (Q := gQ) (k := srt gB gs) (s := (tkN gB gs)) (by omega))
      replace hP := hP.to w1369 (evP_c2 (B := gB) (Q := gQ) (k := srt gB gs) (s := (tkN gB gs)) (by omega))
      refine tr_iload_n dX12_readEvent_13 rfl ?_
      refine q_iconst dX12_readEvent_14 (by decide) ?_
      intro v1380 h1381
      refine q_icmp_eq 23 dX12_readEvent_15 (by decide) (fun h1382 => ?_) (fun h1382 => ?_)
      · skip
        refine tr_aload_n dX12_readEvent_23 rfl ?_
        refine q_iconst dX12_readEvent_24 (by decide) ?_
        intro v1383 h1384
        refine tr_aload_n dX12_readEvent_25 rfl ?_
        refine tr_getR dX12_readEvent_26 fl12_188 (kR15 hS1325.1 ta0) d2 ?_
        refine q_getI dX12_readEvent_29 fl12_263 (kR14 hS1325.1 ta1) ((hS1325.cell ta1 (by decide +kernel)).trans c34) ?_
        refine q_iconst dX12_readEvent_32 (by decide) ?_
        intro v1385 h1386
        refine q_isubE dX12_readEvent_33 (by intros; omega) ?_
        intro v1387 h1388
        refine q_callVi hE (M' := mX12_readWhole) (as := [_, _]) dX12_readEvent_34 lk12_161 inX12_readWhole seX12_readWhole myX12_readWhole (by decide) ⟨by decide, by decide⟩ rfl (kR15 hS1325.1 ta0) (Nat.le_of_ble_eq_true rfl) rfl rfl (by decide) (by decide) (fk_X12_readWhole hS1325.1 (gB) ((tkN gB gs)) ta0 (TxA.kp hT hS1325 ta0 rfl rfl rfl (by decide +kernel) (by decide +kernel)) (by (try rw [c1353]); first | done | with_reducible assumption | omega) (by (try rw [c1353]); first | done | with_reducible assumption | omega) (by (try rw [c1356]); first | done | with_reducible assumption | omega) (by (try rw [c1359]); first | done | with_reducible assumption | omega) (by (try rw [c1361]); first | done | assumption) (by (try rw [c1363]); first | done | assumption) (by (try rw [c1365]); first | done | assumption) (by (try rw [((hS1325.cell ta0 (by decide +kernel)).trans c26)]); first | done | with_reducible assumption | omega)) ?_
        rintro v1394 cn' K' N' I1389 R1390 L1391 ⟨rfl, rfl, rfl, rfl, g1392, dj1395, -⟩
        have hM1396 : NmM I1389 R0 L1319 a1 gQ := NmM.kpS hM1349 g1392 hS1325.1 ta1 (by decide +kernel) (by decide +kernel)
        have hS1397 := hS1325.tr g1392 (by decide +kernel) (by decide +kernel)
        have c1398 : I1389 a1 2 = v37 := (g1392.cell ta1 (by decide +kernel)).trans c1326
        have hO1399 : FrO 14 a1 T I0 I1389 := hO1327.st g1392 (by decide +kernel)
        rcases dj1395 with ⟨p1400, p1401, p1402, p1403, p1404, p1405, p1406, p1407, p1408, p1409, p1410, p1411, gl1412, -⟩ | ⟨p1413, p1414, p1415, p1416, p1417, -⟩ | ⟨p1418, p1419, p1420, p1421, p1422, p1423, -⟩
        · skip
          have hL1424 := hL1348.tr gl1412 (by decide +kernel)
          have hM1425 : NmM I1389 R0 L1391 a1 gQ := NmM.kpL hM1396 gl1412 hS1397.1 ta1 (by decide +kernel)
          obtain ⟨v1426, c1427⟩ : ∃ v, I1389 a0 13 = v := ⟨_, rfl⟩
          rw [c1427] at p1404
          rw [c1351] at p1404
          obtain ⟨v1428, c1429⟩ : ∃ v, I1389 a0 9 = v := ⟨_, rfl⟩
          have b1430 := iv15_9 hS1397.1 ta0 c1429
          rw [c1429] at p1405
          rw [c1429] at p1406
          obtain ⟨v1431, c1432⟩ : ∃ v, I1389 a0 10 = v := ⟨_, rfl⟩
          have b1433 := iv15_10 hS1397.1 ta0 c1432
          rw [c1432] at p1407
          obtain ⟨v1434, c1435⟩ : ∃ v, I1389 a0 11 = v := ⟨_, rfl⟩
          rw [c1435] at p1408
          obtain ⟨y1436, c1437⟩ : ∃ v, L1391 a0 15 = v := ⟨_, rfl⟩
          rw [c1437] at p1409
          obtain ⟨v1438, c1439⟩ : ∃ v, I1389 a0 12 = v := ⟨_, rfl⟩
          rw [c1439] at p1410
          obtain ⟨v1440, c1441⟩ : ∃ v, I1389 a0 8 = v := ⟨_, rfl⟩
          have b1442 := iv15_8 hS1397.1 ta0 c1441
          rw [c1441] at p1411
          replace hF := hF.neg (by omega)
          replace hP := hP.neg (by omega)
          replace hF := hF.neg (by omega)
          replace hP := hP.neg (by omega)
          refine tr_goto 42 dX12_readEvent_37 (by decide) ?_
          refine tr_istore_n dX12_readEvent_42 (by decide) (by decide) ?_
          refine tr_aload_n dX12_readEvent_43 rfl ?_
          refine q_iconst dX12_readEvent_44 (by decide) ?_
          intro v1443 h1444
          refine tr_aload_n dX12_readEvent_45 rfl ?_
          refine tr_getR dX12_readEvent_46 fl12_188 (kR15 hS1397.1 ta0) d2 ?_
          refine q_getI dX12_readEvent_49 fl12_192 (kR14 hS1397.1 ta1) ((hS1397.cell ta1 (by decide +kernel)).trans c30) ?_
          refine q_iconst dX12_readEvent_52 (by decide) ?_
          intro v1445 h1446
          refine q_isubE dX12_readEvent_53 (by intros; omega) ?_
          intro v1447 h1448
          refine q_callVi hE (M' := mX12_readWhole) (as := [_, _]) dX12_readEvent_54 lk12_161 inX12_readWhole seX12_readWhole myX12_readWhole (by decide) ⟨by decide, by decide⟩ rfl (kR15 hS1397.1 ta0) (Nat.le_of_ble_eq_true rfl) rfl rfl (by decide) (by decide) (fk_X12_readWhole hS1397.1 (gB) ((tkN gB (tkN gB gs))) ta0 (TxA.kp hT hS1397 ta0 rfl rfl rfl (by decide +kernel) (by decide +kernel)) (by (try rw [c1429]); first | done | with_reducible assumption | omega) (by (try rw [c1429]); first | done | with_reducible assumption | omega) (by (try rw [c1432]); first | done | with_reducible assumption | omega) (by (try rw [c1435]); first | done | with_reducible assumption | omega) (by (try rw [c1437]); first | done | assumption) (by (try rw [c1439]); first | done | assumption) (by (try rw [c1441]); first | done | assumption) (by (try rw [((hS1397.cell ta0 (by decide +kernel)).trans c26)]); first | done | with_reducible assumption | omega)) ?_
          rintro v1454 cn' K' N' I1449 R1450 L1451 ⟨rfl, rfl, rfl, rfl, g1452, dj1455, -⟩
          have hM1456 : NmM I1449 R0 L1391 a1 gQ := NmM.kpS hM1425 g1452 hS1397.1 ta1 (by decide +kernel) (by decide +kernel)
          have hS1457 := hS1397.tr g1452 (by decide +kernel) (by decide +kernel)
          have c1458 : I1449 a1 2 = v37 := (g1452.cell ta1 (by decide +kernel)).trans c1398
          have hO1459 : FrO 14 a1 T I0 I1449 := hO1399.st g1452 (by decide +kernel)
          rcases dj1455 with ⟨p1460, p1461, p1462, p1463, p1464, p1465, p1466, p1467, p1468, p1469, p1470, p1471, gl1472, -⟩ | ⟨p1473, p1474, p1475, p1476, p1477, -⟩ | ⟨p1478, p1479, p1480, p1481, p1482, p1483, -⟩
          · skip
            have hL1484 := hL1424.tr gl1472 (by decide +kernel)
            have hM1485 : NmM I1449 R0 L1451 a1 gQ := NmM.kpL hM1456 gl1472 hS1457.1 ta1 (by decide +kernel)
            obtain ⟨v1486, c1487⟩ : ∃ v, I1449 a0 13 = v := ⟨_, rfl⟩
            rw [c1487] at p1464
            rw [c1427] at p1464
            obtain ⟨v1488, c1489⟩ : ∃ v, I1449 a0 9 = v := ⟨_, rfl⟩
            have b1490 := iv15_9 hS1457.1 ta0 c1489
            rw [c1489] at p1465
            rw [c1489] at p1466
            obtain ⟨v1491, c1492⟩ : ∃ v, I1449 a0 10 = v := ⟨_, rfl⟩
            have b1493 := iv15_10 hS1457.1 ta0 c1492
            rw [c1492] at p1467
            obtain ⟨v1494, c1495⟩ : ∃ v, I1449 a0 11 = v := ⟨_, rfl⟩
            rw [c1495] at p1468
            obtain ⟨y1496, c1497⟩ : ∃ v, L1451 a0 15 = v := ⟨_, rfl⟩
            rw [c1497] at p1469
            obtain ⟨v1498, c1499⟩ : ∃ v, I1449 a0 12 = v := ⟨_, rfl⟩
            rw [c1499] at p1470
            obtain ⟨v1500, c1501⟩ : ∃ v, I1449 a0 8 = v := ⟨_, rfl⟩
            have b1502 := iv15_8 hS1457.1 ta0 c1501
            rw [c1501] at p1471
            replace hF := hF.neg (by omega)
            replace hP := hP.neg (by omega)
            replace hF := hF.neg (by omega)
            replace hP := hP.neg (by omega)
            refine tr_istore_n dX12_readEvent_57 (by decide) (by decide) ?_
            refine tr_iload_n dX12_readEvent_58 rfl ?_
            refine q_iconst dX12_readEvent_59 (by decide) ?_
            intro v1503 h1504
            refine q_icmp_ne 69 dX12_readEvent_60 (by decide) (fun h1505 => ?_) (fun h1505 => ?_)
            · skip
              refine tr_aload_n dX12_readEvent_69 rfl ?_
              refine tr_ldcwS dX12_readEvent_70 ld12_272 ?_
              refine tr_iload_n dX12_readEvent_73 rfl ?_
              refine q_iconst dX12_readEvent_74 (by decide) ?_
              intro v1506 h1507
              refine q_iaddE dX12_readEvent_75 (by intros; omega) ?_
              intro v1508 h1509
              refine tr_aload_n dX12_readEvent_76 rfl ?_
              refine tr_getR dX12_readEvent_77 fl12_188 (kR15 hS1457.1 ta0) d2 ?_
              refine q_getI dX12_readEvent_80 fl12_192 (kR14 hS1457.1 ta1) ((hS1457.cell ta1 (by decide +kernel)).trans c30) ?_
              refine q_callVi hE (M' := mX12_readPart) (as := [_, _, _]) dX12_readEvent_83 lk12_249 inX12_readPart seX12_readPart myX12_readPart (by decide) ⟨by decide, by decide⟩ rfl (kR15 hS1457.1 ta0) (Nat.le_of_ble_eq_true rfl) rfl rfl (by decide) (by decide) (fk_X12_readPart hS1457.1 (gB) ((tkN gB (tkN gB (tkN gB gs)))) ta0 (by decide) (TxA.kp hT hS1457 ta0 rfl rfl rfl (by decide +kernel) (by decide +kernel)) (by (try rw [c1489]); first | done | with_reducible assumption | omega) (by (try rw [c1489]); first | done | with_reducible assumption | omega) (by (try rw [c1492]); first | done | with_reducible assumption | omega) (by (try rw [c1495]); first | done | with_reducible assumption | omega) (by (try rw [c1497]); first | done | assumption) (by (try rw [c1499]); first | done | assumption) (by (try rw [c1501]); first | done | assumption) (by (try rw [((hS1457.cell ta0 (by decide +kernel)).trans c26)]); first | done | with_reducible assumption | omega)) ?_
              rintro v1515 cn' K' N' I1510 R1511 L1512 ⟨rfl, rfl, rfl, rfl, g1513, dj1516, -⟩
              (try rw [pk_25] at dj1516)
              have hM1517 : NmM I1510 R0 L1451 a1 gQ := NmM.kpS hM1485 g1513 hS1457.1 ta1 (by decide +kernel) (by decide +kernel)
              have hS1518 := hS1457.tr g1513 (by decide +kernel) (by decide +kernel)
              have c1519 : I1510 a1 2 = v37 := (g1513.cell ta1 (by decide +kernel)).trans c1458
              have hO1520 : FrO 14 a1 T I0 I1510 := hO1459.st g1513 (by decide +kernel)
              rcases dj1516 with ⟨p1521, p1522, p1523, p1524, p1525, p1526, p1527, p1528, p1529, p1530, p1531, p1532, p1533, p1534, gl1535, -⟩ | ⟨p1536, p1537, p1538, p1539, p1540, -⟩ | ⟨p1541, p1542, p1543, p1544, p1545, p1546, p1547, -⟩ | ⟨p1548, p1549, p1550, p1551, p1552, p1553, p1554, p1555, -⟩
              · skip
                have hL1556 := hL1484.tr gl1535 (by decide +kernel)
                have hM1557 : NmM I1510 R0 L1512 a1 gQ := NmM.kpL hM1517 gl1535 hS1518.1 ta1 (by decide +kernel)
                obtain ⟨v1558, c1559⟩ : ∃ v, I1510 a0 13 = v := ⟨_, rfl⟩
                rw [c1559] at p1527
                rw [c1487] at p1527
                obtain ⟨v1560, c1561⟩ : ∃ v, I1510 a0 9 = v := ⟨_, rfl⟩
                have b1562 := iv15_9 hS1518.1 ta0 c1561
                rw [c1561] at p1528
                rw [c1561] at p1529
                obtain ⟨v1563, c1564⟩ : ∃ v, I1510 a0 10 = v := ⟨_, rfl⟩
                have b1565 := iv15_10 hS1518.1 ta0 c1564
                rw [c1564] at p1530
                obtain ⟨v1566, c1567⟩ : ∃ v, I1510 a0 11 = v := ⟨_, rfl⟩
                rw [c1567] at p1531
                obtain ⟨y1568, c1569⟩ : ∃ v, L1512 a0 15 = v := ⟨_, rfl⟩
                rw [c1569] at p1532
                obtain ⟨v1570, c1571⟩ : ∃ v, I1510 a0 12 = v := ⟨_, rfl⟩
                rw [c1571] at p1533
                obtain ⟨v1572, c1573⟩ : ∃ v, I1510 a0 8 = v := ⟨_, rfl⟩
                have b1574 := iv15_8 hS1518.1 ta0 c1573
                rw [c1573] at p1534
                replace hF := hF.neg (by omega)
                replace hP := hP.neg (by omega)
                replace hF := hF.neg (by omega)
                replace hP := hP.neg (by omega)
                replace hF := hF.neg (by omega)
                replace hP := hP.neg (by omega)
                refine tr_istore dX12_readEvent_86 (by decide) (by decide) ?_
                refine tr_aload_n dX12_readEvent_88 rfl ?_
                refine q_getI dX12_readEvent_89 fl12_99 (kR15 hS1518.1 ta0) c1561 ?_
                refine q_iconst dX12_readEvent_92 (by decide) ?_
                intro v1575 h1576
                refine q_icmp_ne 97 dX12_readEvent_93 (by decide) (fun h1577 => ?_) (fun h1577 => ?_)
                · skip
                  refine tr_aload_n dX12_readEvent_97 rfl ?_
                  refine tr_getR dX12_readEvent_98 fl12_188 (kR15 hS1518.1 ta0) d2 ?_
                  refine q_getI dX12_readEvent_101 fl12_265 (kR14 hS1518.1 ta1) c1519 ?_
                  refine tr_istore dX12_readEvent_104 (by decide) (by decide) ?_
                  refine tr_aload_n dX12_readEvent_106 rfl ?_
                  refine tr_getR dX12_readEvent_107 fl12_188 (kR15 hS1518.1 ta0) d2 ?_
                  refine tr_getR dX12_readEvent_110 fl12_274 (kR14 hS1518.1 ta1) d67 ?_
                  refine tr_iload dX12_readEvent_113 rfl ?_
                  refine tr_iload_n dX12_readEvent_115 rfl ?_
                  refine q_iastX dX12_readEvent_116 (kR54 hS1518.1 ta66) (ti_in (nR54 hS1518.1 ta66) (by omega) (by omega)) hS1518 ta66 (by rfl) (hS1518.1.putK (m := a1) ta1 d67 (by rw [c1519]; exact Int.le_of_eq (ti_nat (by omega)).symm)) ?_
                  intro I1582 hS1583 e1584 f1585
                  have c1586 : I1582 a1 2 = v37 := (f1585 _ _ (fun q => by have z := ta1; rw [q.1, ta66] at z; exact absurd z (by decide))).trans c1519
                  have c1587 : I1582 a0 13 = v1558 := (f1585 _ _ (fun q => by have z := ta0; rw [q.1, ta66] at z; exact absurd z (by decide))).trans c1559
                  have c1588 : I1582 a0 9 = v1560 := (f1585 _ _ (fun q => by have z := ta0; rw [q.1, ta66] at z; exact absurd z (by decide))).trans c1561
                  have c1589 : I1582 a0 10 = v1563 := (f1585 _ _ (fun q => by have z := ta0; rw [q.1, ta66] at z; exact absurd z (by decide))).trans c1564
                  have c1590 : I1582 a0 11 = v1566 := (f1585 _ _ (fun q => by have z := ta0; rw [q.1, ta66] at z; exact absurd z (by decide))).trans c1567
                  have c1591 : I1582 a0 12 = v1570 := (f1585 _ _ (fun q => by have z := ta0; rw [q.1, ta66] at z; exact absurd z (by decide))).trans c1571
                  have c1592 : I1582 a0 8 = v1572 := (f1585 _ _ (fun q => by have z := ta0; rw [q.1, ta66] at z; exact absurd z (by decide))).trans c1573
                  have hO1593 : FrO 14 a1 T I0 I1582 := hO1520.put f1585 ta66 (Or.inl (by decide))
                  have hM1594 : NmM I1582 R0 L1512 a1 gQ := NmM.kp1 hM1557 f1585 ta66 rfl rfl hS1518.1 ta1
                  refine tr_aload_n dX12_readEvent_117 rfl ?_
                  refine tr_getR dX12_readEvent_118 fl12_188 (kR15 hS1583.1 ta0) d2 ?_
                  refine tr_getR dX12_readEvent_121 fl12_277 (kR14 hS1583.1 ta1) d69 ?_
                  refine tr_iload dX12_readEvent_124 rfl ?_
                  refine tr_iload_n dX12_readEvent_126 rfl ?_
                  refine q_iastX dX12_readEvent_127 (kR55 hS1583.1 ta68) (ti_in (nR55 hS1583.1 ta68) (by omega) (by omega)) hS1583 ta68 (by rfl) (hS1583.1.putH (m := a1) ta1 d69 (by rw [c1586]; exact Int.le_of_eq (ti_nat (by omega)).symm) (by omega)) ?_
                  intro I1599 hS1600 e1601 f1602
                  have c1603 : I1599 a1 2 = v37 := (f1602 _ _ (fun q => by have z := ta1; rw [q.1, ta68] at z; exact absurd z (by decide))).trans c1586
                  have c1604 : I1599 a0 13 = v1558 := (f1602 _ _ (fun q => by have z := ta0; rw [q.1, ta68] at z; exact absurd z (by decide))).trans c1587
                  have c1605 : I1599 a0 9 = v1560 := (f1602 _ _ (fun q => by have z := ta0; rw [q.1, ta68] at z; exact absurd z (by decide))).trans c1588
                  have c1606 : I1599 a0 10 = v1563 := (f1602 _ _ (fun q => by have z := ta0; rw [q.1, ta68] at z; exact absurd z (by decide))).trans c1589
                  have c1607 : I1599 a0 11 = v1566 := (f1602 _ _ (fun q => by have z := ta0; rw [q.1, ta68] at z; exact absurd z (by decide))).trans c1590
                  have c1608 : I1599 a0 12 = v1570 := (f1602 _ _ (fun q => by have z := ta0; rw [q.1, ta68] at z; exact absurd z (by decide))).trans c1591
                  have c1609 : I1599 a0 8 = v1572 := (f1602 _ _ (fun q => by have z := ta0; rw [q.1, ta68] at z; exact absurd z (by decide))).trans c1592
                  have c1610 : I1599 a66 v37.toNatClampNeg = x1 := (f1602 _ _ (fun q => by have z := ta66; rw [q.1, ta68] at z; exact absurd z (by decide))).trans e1584
                  have hO1611 : FrO 14 a1 T I0 I1599 := hO1593.put f1602 ta68 (Or.inl (by decide))
                  have hM1612 : NmM I1599 R0 L1512 a1 gQ := NmM.kp1 hM1594 f1602 ta68 rfl rfl hS1583.1 ta1
                  refine tr_aload_n dX12_readEvent_128 rfl ?_
                  refine tr_getR dX12_readEvent_129 fl12_188 (kR15 hS1600.1 ta0) d2 ?_
                  refine tr_getR dX12_readEvent_132 fl12_280 (kR14 hS1600.1 ta1) d71 ?_
                  refine tr_iload dX12_readEvent_135 rfl ?_
                  refine tr_iload_n dX12_readEvent_137 rfl ?_
                  refine q_iast dX12_readEvent_138 (kR56 hS1600.1 ta70) (ti_in (nR56 hS1600.1 ta70) (by omega) (by omega)) hS1600 ta70 (by show (0 : Int) ≤ v1454.toInt ∧ v1454.toInt ≤ (240 : Int); omega) rfl (by rfl) ?_
                  intro I1613 hS1614 e1616 f1615
                  have c1617 : I1613 a1 2 = v37 := (f1615 _ _ (fun q => by have z := ta1; rw [q.1, ta70] at z; exact absurd z (by decide))).trans c1603
                  have c1618 : I1613 a0 13 = v1558 := (f1615 _ _ (fun q => by have z := ta0; rw [q.1, ta70] at z; exact absurd z (by decide))).trans c1604
                  have c1619 : I1613 a0 9 = v1560 := (f1615 _ _ (fun q => by have z := ta0; rw [q.1, ta70] at z; exact absurd z (by decide))).trans c1605
                  have c1620 : I1613 a0 10 = v1563 := (f1615 _ _ (fun q => by have z := ta0; rw [q.1, ta70] at z; exact absurd z (by decide))).trans c1606
                  have c1621 : I1613 a0 11 = v1566 := (f1615 _ _ (fun q => by have z := ta0; rw [q.1, ta70] at z; exact absurd z (by decide))).trans c1607
                  have c1622 : I1613 a0 12 = v1570 := (f1615 _ _ (fun q => by have z := ta0; rw [q.1, ta70] at z; exact absurd z (by decide))).trans c1608
                  have c1623 : I1613 a0 8 = v1572 := (f1615 _ _ (fun q => by have z := ta0; rw [q.1, ta70] at z; exact absurd z (by decide))).trans c1609
                  have c1624 : I1613 a66 v37.toNatClampNeg = x1 := (f1615 _ _ (fun q => by have z := ta66; rw [q.1, ta70] at z; exact absurd z (by decide))).trans c1610
                  have c1625 : I1613 a68 v37.toNatClampNeg = v1394 := (f1615 _ _ (fun q => by have z := ta68; rw [q.1, ta70] at z; exact absurd z (by decide))).trans e1601
                  have hO1626 : FrO 14 a1 T I0 I1613 := hO1611.put f1615 ta70 (Or.inl (by decide))
                  have hM1627 : NmM I1613 R0 L1512 a1 gQ := NmM.kp1 hM1612 f1615 ta70 rfl rfl hS1600.1 ta1
                  refine tr_aload_n dX12_readEvent_139 rfl ?_
                  refine tr_getR dX12_readEvent_140 fl12_188 (kR15 hS1614.1 ta0) d2 ?_
                  refine tr_getR dX12_readEvent_143 fl12_283 (kR14 hS1614.1 ta1) d73 ?_
                  refine tr_iload dX12_readEvent_146 rfl ?_
                  refine tr_iload dX12_readEvent_148 rfl ?_
                  refine q_iast dX12_readEvent_150 (kR57 hS1614.1 ta72) (ti_in (nR57 hS1614.1 ta72) (by omega) (by omega)) hS1614 ta72 (by show (0 : Int) ≤ v1515.toInt ∧ v1515.toInt ≤ (240 : Int); omega) rfl (by rfl) ?_
                  intro I1628 hS1629 e1631 f1630
                  have c1632 : I1628 a1 2 = v37 := (f1630 _ _ (fun q => by have z := ta1; rw [q.1, ta72] at z; exact absurd z (by decide))).trans c1617
                  have c1633 : I1628 a0 13 = v1558 := (f1630 _ _ (fun q => by have z := ta0; rw [q.1, ta72] at z; exact absurd z (by decide))).trans c1618
                  have c1634 : I1628 a0 9 = v1560 := (f1630 _ _ (fun q => by have z := ta0; rw [q.1, ta72] at z; exact absurd z (by decide))).trans c1619
                  have c1635 : I1628 a0 10 = v1563 := (f1630 _ _ (fun q => by have z := ta0; rw [q.1, ta72] at z; exact absurd z (by decide))).trans c1620
                  have c1636 : I1628 a0 11 = v1566 := (f1630 _ _ (fun q => by have z := ta0; rw [q.1, ta72] at z; exact absurd z (by decide))).trans c1621
                  have c1637 : I1628 a0 12 = v1570 := (f1630 _ _ (fun q => by have z := ta0; rw [q.1, ta72] at z; exact absurd z (by decide))).trans c1622
                  have c1638 : I1628 a0 8 = v1572 := (f1630 _ _ (fun q => by have z := ta0; rw [q.1, ta72] at z; exact absurd z (by decide))).trans c1623
                  have c1639 : I1628 a66 v37.toNatClampNeg = x1 := (f1630 _ _ (fun q => by have z := ta66; rw [q.1, ta72] at z; exact absurd z (by decide))).trans c1624
                  have c1640 : I1628 a68 v37.toNatClampNeg = v1394 := (f1630 _ _ (fun q => by have z := ta68; rw [q.1, ta72] at z; exact absurd z (by decide))).trans c1625
                  have hO1641 : FrO 14 a1 T I0 I1628 := hO1626.put f1630 ta72 (Or.inl (by decide))
                  have hM1642 : NmM I1628 R0 L1512 a1 gQ := NmM.kp1 hM1627 f1630 ta72 rfl rfl hS1614.1 ta1
                  refine tr_aload_n dX12_readEvent_151 rfl ?_
                  refine tr_getR dX12_readEvent_152 fl12_188 (kR15 hS1629.1 ta0) d2 ?_
                  refine tr_dup dX12_readEvent_155 rfl ?_
                  refine q_getI dX12_readEvent_156 fl12_265 (kR14 hS1629.1 ta1) c1632 ?_
                  refine q_iconst dX12_readEvent_159 (by decide) ?_
                  intro v1643 h1644
                  refine q_iaddE dX12_readEvent_160 (by intros; omega) ?_
                  intro v1645 h1646
                  refine q_putX dX12_readEvent_161 fl12_265 (kR14 hS1629.1 ta1) (Or.inl rfl) hS1629 ta1 (by decide +kernel) (hS1629.1.putE (i := v37.toNatClampNeg) ta1 d67 d69 (by rw [c1632]; exact (ti_nat (by omega)).symm) (by rw [c1632]; omega) (by omega) (by rw [c1639, c1640]; omega)) ?_
                  intro I1647 hS1648 e1649 f1650
                  have c1651 : I1647 a0 13 = v1558 := (f1650 _ _ (fun q => absurd q.2 (by decide))).trans c1633
                  have c1652 : I1647 a0 9 = v1560 := (f1650 _ _ (fun q => absurd q.2 (by decide))).trans c1634
                  have c1653 : I1647 a0 10 = v1563 := (f1650 _ _ (fun q => absurd q.2 (by decide))).trans c1635
                  have c1654 : I1647 a0 11 = v1566 := (f1650 _ _ (fun q => absurd q.2 (by decide))).trans c1636
                  have c1655 : I1647 a0 12 = v1570 := (f1650 _ _ (fun q => absurd q.2 (by decide))).trans c1637
                  have c1656 : I1647 a0 8 = v1572 := (f1650 _ _ (fun q => absurd q.2 (by decide))).trans c1638
                  have c1657 : I1647 a66 v37.toNatClampNeg = x1 := (f1650 _ _ (fun q => by have z := ta66; rw [q.1, ta1] at z; exact absurd z (by decide))).trans c1639
                  have c1658 : I1647 a68 v37.toNatClampNeg = v1394 := (f1650 _ _ (fun q => by have z := ta68; rw [q.1, ta1] at z; exact absurd z (by decide))).trans c1640
                  have hO1659 : FrO 14 a1 T I0 I1647 := hO1641.put f1650 ta1 (Or.inr rfl)
                  have hM1660 : NmM I1647 R0 L1512 a1 gQ := NmM.kp1 hM1642 f1650 ta1 rfl rfl hS1629.1 ta1
                  have eF := hF.eq
                  have eP := hP.eq
                  have es1661 := evS_c2 (B := gB) (Q := gQ) (k := srt gB gs) (s := (tkN gB gs)) (by omega)
                  obtain ⟨v1662, c1663⟩ : ∃ v, I1647 a0 14 = v := ⟨_, rfl⟩
                  exact tr_vret hZ dX12_readEvent_164 rfl (by decide) (by decide) ⟨rfl, rfl, rfl, rfl, rfl, hS1648, (fun b hb => (Option.some.inj (d2.symm.trans hb)) ▸ ((((((((((FrM.rf (R := R0) (b := a1) (T := T)).st g1320 (by decide +kernel)).st g1392 (by decide +kernel)).st g1452 (by decide +kernel)).st g1513 (by decide +kernel)).pu f1585 (by decide) (by decide) d67).pu f1602 (by decide) (by decide) d69).pu f1615 (by decide) (by decide) d71).pu f1630 (by decide) (by decide) d73).put f1650 ta1 (by decide))), (fun dr hd => (Option.some.inj (d2.symm.trans hd)) ▸ hO1659), (Or.inl ⟨(by (try rw [w1370]); (try rw [es1661]); first | done | with_reducible assumption | omega), (fun q0 z0 => by obtain rfl := Option.some.inj ((d2).symm.trans z0); (try rw [w1370]); (try rw [es1661]); (try rw [((hS1648.cell ta1 (by decide +kernel)).trans c30)]); first | done | with_reducible assumption | omega), (fun q0 z0 => by obtain rfl := Option.some.inj ((d2).symm.trans z0); (try rw [w1370]); (try rw [es1661]); (try rw [((hS1648.cell ta1 (by decide +kernel)).trans c34)]); first | done | with_reducible assumption | omega), (fun q0 z0 => by obtain rfl := Option.some.inj ((d2).symm.trans z0); (try rw [w1370]); (try rw [es1661]); (try rw [e1649]); first | done | with_reducible assumption | omega), (fun q0 z0 => by obtain rfl := Option.some.inj ((d2).symm.trans z0); (try rw [w1370]); (try rw [es1661]); (try rw [((hS1648.cell ta1 (by decide +kernel)).trans c42)]); first | done | with_reducible assumption | omega), (fun q0 z0 => by obtain rfl := Option.some.inj ((d2).symm.trans z0); (try rw [w1370]); (try rw [es1661]); (try rw [((hS1648.cell ta1 (by decide +kernel)).trans c46)]); first | done | with_reducible assumption | omega), (fun q0 z0 => by obtain rfl := Option.some.inj ((d2).symm.trans z0); (try rw [w1370]); (try rw [es1661]); (try rw [((hS1648.cell ta1 (by decide +kernel)).trans c50)]); first | done | with_reducible assumption | omega), (fun q0 z0 => by obtain rfl := Option.some.inj ((d2).symm.trans z0); (try rw [w1370]); (try rw [es1661]); (try rw [((hS1648.cell ta1 (by decide +kernel)).trans c54)]); first | done | with_reducible assumption | omega), (fun q0 z0 => by obtain rfl := Option.some.inj ((d2).symm.trans z0); (try rw [w1370]); (try rw [es1661]); (try rw [((hS1648.cell ta1 (by decide +kernel)).trans c58)]); first | done | with_reducible assumption | omega), (by (try rw [w1370]); (try rw [es1661]); (try rw [c1651]); (try rw [c65]); first | done | with_reducible assumption | omega), (by (try rw [w1370]); (try rw [es1661]); (try rw [c1652]); first | done | with_reducible assumption | omega), (by (try rw [w1370]); (try rw [es1661]); (try rw [c1652]); first | done | with_reducible assumption | omega), (by (try rw [w1370]); (try rw [es1661]); (try rw [c1653]); first | done | with_reducible assumption | omega), (by (try rw [w1370]); (try rw [es1661]); (try rw [c1654]); first | done | with_reducible assumption | omega), (by (try rw [w1370]); (try rw [es1661]); (try rw [c1569]); first | done | assumption), (by (try rw [w1370]); (try rw [es1661]); (try rw [c1655]); first | done | assumption), (by (try rw [w1370]); (try rw [es1661]); (try rw [c1656]); first | done | assumption), hL1556, (fun b hb => (Option.some.inj (d2.symm.trans hb)) ▸ NmM.ln (NmM.bd (k := srt gB gs) hM1660 (by omega) (by omega)) rfl), (fun E b hb hE => by obtain rfl := Option.some.inj (d2.symm.trans hb); exact AlM.ev hE hW0 ta1 (by omega) (by omega) (by omega) (by omega) (hS1648.cell ta1 (by decide +kernel)) (RoF.st (ex := xr 54 57) hS1648 (by decide +kernel)) (fun f hf => match f, hf with | 0, _ => (fun a ha => by obtain rfl := Option.some.inj (d67.symm.trans ha); have zi : v37.toNatClampNeg = (gQ 2).toNat := congrArg Int.toNat (by omega); have ze := (Eq.trans ((f1650 _ _ (fun q => by have z := ta66; rw [q.1, ta1] at z; exact absurd z (by decide))).trans ((f1630 _ _ (fun q => by have z := ta66; rw [q.1, ta72] at z; exact absurd z (by decide))).trans ((f1615 _ _ (fun q => by have z := ta66; rw [q.1, ta70] at z; exact absurd z (by decide))).trans (f1602 _ _ (fun q => by have z := ta66; rw [q.1, ta68] at z; exact absurd z (by decide)))))) e1584); rw [zi] at ze; exact ⟨by rw [ze]; simp only [evD, ↓reduceIte]; repeat' (first | split | omega), fun j hj => ((f1650 _ _ (fun q => by have z := ta66; rw [q.1, ta1] at z; exact absurd z (by decide))).trans ((f1630 _ _ (fun q => by have z := ta66; rw [q.1, ta72] at z; exact absurd z (by decide))).trans ((f1615 _ _ (fun q => by have z := ta66; rw [q.1, ta70] at z; exact absurd z (by decide))).trans ((f1602 _ _ (fun q => by have z := ta66; rw [q.1, ta68] at z; exact absurd z (by decide))).trans ((f1585 _ _ (fun q => hj (q.2.trans zi))).trans ((g1513.cell ta66 (wm_no (by decide +kernel))).trans ((g1452.cell ta66 (wm_no (by decide +kernel))).trans ((g1392.cell ta66 (wm_no (by decide +kernel))).trans (g1320.cell ta66 (wm_no (by decide +kernel)))))))))))⟩) | 1, _ => (fun a ha => by obtain rfl := Option.some.inj (d69.symm.trans ha); have zi : v37.toNatClampNeg = (gQ 2).toNat := congrArg Int.toNat (by omega); have ze := (Eq.trans ((f1650 _ _ (fun q => by have z := ta68; rw [q.1, ta1] at z; exact absurd z (by decide))).trans ((f1630 _ _ (fun q => by have z := ta68; rw [q.1, ta72] at z; exact absurd z (by decide))).trans (f1615 _ _ (fun q => by have z := ta68; rw [q.1, ta70] at z; exact absurd z (by decide))))) e1601); rw [zi] at ze; exact ⟨by rw [ze]; simp only [evD, ↓reduceIte]; repeat' (first | split | omega), fun j hj => ((f1650 _ _ (fun q => by have z := ta68; rw [q.1, ta1] at z; exact absurd z (by decide))).trans ((f1630 _ _ (fun q => by have z := ta68; rw [q.1, ta72] at z; exact absurd z (by decide))).trans ((f1615 _ _ (fun q => by have z := ta68; rw [q.1, ta70] at z; exact absurd z (by decide))).trans ((f1602 _ _ (fun q => hj (q.2.trans zi))).trans ((f1585 _ _ (fun q => by have z := ta68; rw [q.1, ta66] at z; exact absurd z (by decide))).trans ((g1513.cell ta68 (wm_no (by decide +kernel))).trans ((g1452.cell ta68 (wm_no (by decide +kernel))).trans ((g1392.cell ta68 (wm_no (by decide +kernel))).trans (g1320.cell ta68 (wm_no (by decide +kernel)))))))))))⟩) | 2, _ => (fun a ha => by obtain rfl := Option.some.inj (d71.symm.trans ha); have zi : v37.toNatClampNeg = (gQ 2).toNat := congrArg Int.toNat (by omega); have ze := (Eq.trans ((f1650 _ _ (fun q => by have z := ta70; rw [q.1, ta1] at z; exact absurd z (by decide))).trans (f1630 _ _ (fun q => by have z := ta70; rw [q.1, ta72] at z; exact absurd z (by decide)))) e1616); rw [zi] at ze; exact ⟨by rw [ze]; simp only [evD, ↓reduceIte]; repeat' (first | split | omega), fun j hj => ((f1650 _ _ (fun q => by have z := ta70; rw [q.1, ta1] at z; exact absurd z (by decide))).trans ((f1630 _ _ (fun q => by have z := ta70; rw [q.1, ta72] at z; exact absurd z (by decide))).trans ((f1615 _ _ (fun q => hj (q.2.trans zi))).trans ((f1602 _ _ (fun q => by have z := ta70; rw [q.1, ta68] at z; exact absurd z (by decide))).trans ((f1585 _ _ (fun q => by have z := ta70; rw [q.1, ta66] at z; exact absurd z (by decide))).trans ((g1513.cell ta70 (wm_no (by decide +kernel))).trans ((g1452.cell ta70 (wm_no (by decide +kernel))).trans ((g1392.cell ta70 (wm_no (by decide +kernel))).trans (g1320.cell ta70 (wm_no (by decide +kernel)))))))))))⟩) | 3, _ => (fun a ha => by obtain rfl := Option.some.inj (d73.symm.trans ha); have zi : v37.toNatClampNeg = (gQ 2).toNat := congrArg Int.toNat (by omega); have ze := (Eq.trans (f1650 _ _ (fun q => by have z := ta72; rw [q.1, ta1] at z; exact absurd z (by decide))) e1631); rw [zi] at ze; exact ⟨by rw [ze]; simp only [evD, ↓reduceIte]; repeat' (first | split | omega), fun j hj => ((f1650 _ _ (fun q => by have z := ta72; rw [q.1, ta1] at z; exact absurd z (by decide))).trans ((f1630 _ _ (fun q => hj (q.2.trans zi))).trans ((f1615 _ _ (fun q => by have z := ta72; rw [q.1, ta70] at z; exact absurd z (by decide))).trans ((f1602 _ _ (fun q => by have z := ta72; rw [q.1, ta68] at z; exact absurd z (by decide))).trans ((f1585 _ _ (fun q => by have z := ta72; rw [q.1, ta66] at z; exact absurd z (by decide))).trans ((g1513.cell ta72 (wm_no (by decide +kernel))).trans ((g1452.cell ta72 (wm_no (by decide +kernel))).trans ((g1392.cell ta72 (wm_no (by decide +kernel))).trans (g1320.cell ta72 (wm_no (by decide +kernel)))))))))))⟩) | f + 4, h => absurd h (by omega))), trivial⟩), trivial⟩
                · skip
                  exfalso; omega
              · skip
                obtain ⟨v1664, c1665⟩ : ∃ v, I1510 a0 9 = v := ⟨_, rfl⟩
                have b1666 := iv15_9 hS1518.1 ta0 c1665
                rw [c1665] at p1538
                obtain ⟨v1667, c1668⟩ : ∃ v, I1510 a0 13 = v := ⟨_, rfl⟩
                rw [c1668] at p1539
                obtain ⟨v1669, c1670⟩ : ∃ v, I1510 a0 14 = v := ⟨_, rfl⟩
                rw [c1670] at p1540
                replace hF := hF.pos (by omega)
                replace hP := hP.pos (by omega)
                refine tr_istore dX12_readEvent_86 (by decide) (by decide) ?_
                refine tr_aload_n dX12_readEvent_88 rfl ?_
                refine q_getI dX12_readEvent_89 fl12_99 (kR15 hS1518.1 ta0) c1665 ?_
                refine q_iconst dX12_readEvent_92 (by decide) ?_
                intro v1671 h1672
                refine q_icmp_ne 97 dX12_readEvent_93 (by decide) (fun h1673 => ?_) (fun h1673 => ?_)
                · skip
                  exfalso; omega
                · skip
                  have eF := hF.eq
                  have eP := hP.eq
                  obtain ⟨v1674, c1675⟩ : ∃ v, I1510 a0 10 = v := ⟨_, rfl⟩
                  have b1676 := iv15_10 hS1518.1 ta0 c1675
                  obtain ⟨v1677, c1678⟩ : ∃ v, I1510 a0 11 = v := ⟨_, rfl⟩
                  obtain ⟨y1679, c1680⟩ : ∃ v, L1512 a0 15 = v := ⟨_, rfl⟩
                  obtain ⟨v1681, c1682⟩ : ∃ v, I1510 a0 12 = v := ⟨_, rfl⟩
                  obtain ⟨v1683, c1684⟩ : ∃ v, I1510 a0 8 = v := ⟨_, rfl⟩
                  have b1685 := iv15_8 hS1518.1 ta0 c1684
                  exact tr_vret hZ dX12_readEvent_96 rfl (by decide) (by decide) ⟨rfl, rfl, rfl, rfl, rfl, hS1518, (fun b hb => (Option.some.inj (d2.symm.trans hb)) ▸ (((((FrM.rf (R := R0) (b := a1) (T := T)).st g1320 (by decide +kernel)).st g1392 (by decide +kernel)).st g1452 (by decide +kernel)).st g1513 (by decide +kernel))), (fun dr hd => (Option.some.inj (d2.symm.trans hd)) ▸ hO1520), (Or.inr (⟨(by (try rw [w1370]); first | done | with_reducible assumption | omega), (by (try rw [w1370]); (try rw [c1665]); first | done | with_reducible assumption | omega), (by (try rw [w1370]); (try rw [c1668]); first | done | with_reducible assumption | omega), (by (try rw [w1370]); (try rw [c1670]); first | done | with_reducible assumption | omega), trivial⟩)), trivial⟩
              · skip
                obtain ⟨v1686, c1687⟩ : ∃ v, I1510 a0 9 = v := ⟨_, rfl⟩
                have b1688 := iv15_9 hS1518.1 ta0 c1687
                rw [c1687] at p1545
                obtain ⟨v1689, c1690⟩ : ∃ v, I1510 a0 13 = v := ⟨_, rfl⟩
                rw [c1690] at p1546
                obtain ⟨v1691, c1692⟩ : ∃ v, I1510 a0 14 = v := ⟨_, rfl⟩
                rw [c1692] at p1547
                replace hF := hF.neg (by omega)
                replace hP := hP.neg (by omega)
                replace hF := hF.pos (by omega)
                replace hP := hP.pos (by omega)
                refine tr_istore dX12_readEvent_86 (by decide) (by decide) ?_
                refine tr_aload_n dX12_readEvent_88 rfl ?_
                refine q_getI dX12_readEvent_89 fl12_99 (kR15 hS1518.1 ta0) c1687 ?_
                refine q_iconst dX12_readEvent_92 (by decide) ?_
                intro v1693 h1694
                refine q_icmp_ne 97 dX12_readEvent_93 (by decide) (fun h1695 => ?_) (fun h1695 => ?_)
                · skip
                  exfalso; omega
                · skip
                  have eF := hF.eq
                  have eP := hP.eq
                  obtain ⟨v1696, c1697⟩ : ∃ v, I1510 a0 10 = v := ⟨_, rfl⟩
                  have b1698 := iv15_10 hS1518.1 ta0 c1697
                  obtain ⟨v1699, c1700⟩ : ∃ v, I1510 a0 11 = v := ⟨_, rfl⟩
                  obtain ⟨y1701, c1702⟩ : ∃ v, L1512 a0 15 = v := ⟨_, rfl⟩
                  obtain ⟨v1703, c1704⟩ : ∃ v, I1510 a0 12 = v := ⟨_, rfl⟩
                  obtain ⟨v1705, c1706⟩ : ∃ v, I1510 a0 8 = v := ⟨_, rfl⟩
                  have b1707 := iv15_8 hS1518.1 ta0 c1706
                  exact tr_vret hZ dX12_readEvent_96 rfl (by decide) (by decide) ⟨rfl, rfl, rfl, rfl, rfl, hS1518, (fun b hb => (Option.some.inj (d2.symm.trans hb)) ▸ (((((FrM.rf (R := R0) (b := a1) (T := T)).st g1320 (by decide +kernel)).st g1392 (by decide +kernel)).st g1452 (by decide +kernel)).st g1513 (by decide +kernel))), (fun dr hd => (Option.some.inj (d2.symm.trans hd)) ▸ hO1520), (Or.inr (⟨(by (try rw [w1370]); first | done | with_reducible assumption | omega), (by (try rw [w1370]); (try rw [c1687]); first | done | with_reducible assumption | omega), (by (try rw [w1370]); (try rw [c1690]); first | done | with_reducible assumption | omega), (by (try rw [w1370]); (try rw [c1692]); first | done | with_reducible assumption | omega), trivial⟩)), trivial⟩
              · skip
                obtain ⟨v1708, c1709⟩ : ∃ v, I1510 a0 9 = v := ⟨_, rfl⟩
                have b1710 := iv15_9 hS1518.1 ta0 c1709
                rw [c1709] at p1553
                obtain ⟨v1711, c1712⟩ : ∃ v, I1510 a0 13 = v := ⟨_, rfl⟩
                rw [c1712] at p1554
                obtain ⟨v1713, c1714⟩ : ∃ v, I1510 a0 14 = v := ⟨_, rfl⟩
                rw [c1714] at p1555
                replace hF := hF.neg (by omega)
                replace hP := hP.neg (by omega)
                replace hF := hF.neg (by omega)
                replace hP := hP.neg (by omega)
                replace hF := hF.pos (by omega)
                replace hP := hP.pos (by omega)
                refine tr_istore dX12_readEvent_86 (by decide) (by decide) ?_
                refine tr_aload_n dX12_readEvent_88 rfl ?_
                refine q_getI dX12_readEvent_89 fl12_99 (kR15 hS1518.1 ta0) c1709 ?_
                refine q_iconst dX12_readEvent_92 (by decide) ?_
                intro v1715 h1716
                refine q_icmp_ne 97 dX12_readEvent_93 (by decide) (fun h1717 => ?_) (fun h1717 => ?_)
                · skip
                  exfalso; omega
                · skip
                  have eF := hF.eq
                  have eP := hP.eq
                  obtain ⟨v1718, c1719⟩ : ∃ v, I1510 a0 10 = v := ⟨_, rfl⟩
                  have b1720 := iv15_10 hS1518.1 ta0 c1719
                  obtain ⟨v1721, c1722⟩ : ∃ v, I1510 a0 11 = v := ⟨_, rfl⟩
                  obtain ⟨y1723, c1724⟩ : ∃ v, L1512 a0 15 = v := ⟨_, rfl⟩
                  obtain ⟨v1725, c1726⟩ : ∃ v, I1510 a0 12 = v := ⟨_, rfl⟩
                  obtain ⟨v1727, c1728⟩ : ∃ v, I1510 a0 8 = v := ⟨_, rfl⟩
                  have b1729 := iv15_8 hS1518.1 ta0 c1728
                  exact tr_vret hZ dX12_readEvent_96 rfl (by decide) (by decide) ⟨rfl, rfl, rfl, rfl, rfl, hS1518, (fun b hb => (Option.some.inj (d2.symm.trans hb)) ▸ (((((FrM.rf (R := R0) (b := a1) (T := T)).st g1320 (by decide +kernel)).st g1392 (by decide +kernel)).st g1452 (by decide +kernel)).st g1513 (by decide +kernel))), (fun dr hd => (Option.some.inj (d2.symm.trans hd)) ▸ hO1520), (Or.inr (⟨(by (try rw [w1370]); first | done | with_reducible assumption | omega), (by (try rw [w1370]); (try rw [c1709]); first | done | with_reducible assumption | omega), (by (try rw [w1370]); (try rw [c1712]); first | done | with_reducible assumption | omega), (by (try rw [w1370]); (try rw [c1714]); first | done | with_reducible assumption | omega), trivial⟩)), trivial⟩
            · skip
              exfalso; omega
          · skip
            obtain ⟨v1730, c1731⟩ : ∃ v, I1449 a0 9 = v := ⟨_, rfl⟩
            have b1732 := iv15_9 hS1457.1 ta0 c1731
            rw [c1731] at p1475
            obtain ⟨v1733, c1734⟩ : ∃ v, I1449 a0 13 = v := ⟨_, rfl⟩
            rw [c1734] at p1476
            obtain ⟨v1735, c1736⟩ : ∃ v, I1449 a0 14 = v := ⟨_, rfl⟩
            rw [c1736] at p1477
            replace hF := hF.pos (by omega)
            replace hP := hP.pos (by omega)
            refine tr_istore_n dX12_readEvent_57 (by decide) (by decide) ?_
            refine tr_iload_n dX12_readEvent_58 rfl ?_
            refine q_iconst dX12_readEvent_59 (by decide) ?_
            intro v1737 h1738
            refine q_icmp_ne 69 dX12_readEvent_60 (by decide) (fun h1739 => ?_) (fun h1739 => ?_)
            · skip
              refine tr_aload_n dX12_readEvent_69 rfl ?_
              refine tr_ldcwS dX12_readEvent_70 ld12_272 ?_
              refine tr_iload_n dX12_readEvent_73 rfl ?_
              refine q_iconst dX12_readEvent_74 (by decide) ?_
              intro v1740 h1741
              refine q_iaddE dX12_readEvent_75 (by intros; omega) ?_
              intro v1742 h1743
              refine tr_aload_n dX12_readEvent_76 rfl ?_
              refine tr_getR dX12_readEvent_77 fl12_188 (kR15 hS1457.1 ta0) d2 ?_
              refine q_getI dX12_readEvent_80 fl12_192 (kR14 hS1457.1 ta1) ((hS1457.cell ta1 (by decide +kernel)).trans c30) ?_
              refine q_callVi hE (M' := mX12_readPart) (as := [_, _, _]) dX12_readEvent_83 lk12_249 inX12_readPart seX12_readPart myX12_readPart (by decide) ⟨by decide, by decide⟩ rfl (kR15 hS1457.1 ta0) (Nat.le_of_ble_eq_true rfl) rfl rfl (by decide) (by decide) (k_X12_readPart hS1457.1 ta0 (by decide)) ?_
              rintro v1748 cn' K' N' I1744 R1745 L1746 ⟨rfl, rfl, rfl, rfl, g1747, p1749, w1750, -⟩
              have hS1751 := hS1457.tr g1747 (by decide +kernel) (by decide +kernel)
              have c1752 : I1744 a1 2 = v37 := (g1747.cell ta1 (by decide +kernel)).trans c1458
              have b1753 : 1 ≤ v1748.toInt ∧ v1748.toInt ≤ 240 := by omega
              clear p1749
              have hO1754 : FrO 14 a1 T I0 I1744 := hO1459.st g1747 (by decide +kernel)
              have ov1755 := w1750.over (by rw [c1731]; omega)
              obtain ⟨v1756, c1757⟩ : ∃ v, I1744 a0 9 = v := ⟨_, rfl⟩
              have b1758 := iv15_9 hS1751.1 ta0 c1757
              obtain ⟨v1759, c1760⟩ : ∃ v, I1744 a0 13 = v := ⟨_, rfl⟩
              obtain ⟨v1761, c1762⟩ : ∃ v, I1744 a0 14 = v := ⟨_, rfl⟩
              (try rw [c1757] at ov1755)
              (try rw [c1760] at ov1755)
              (try rw [c1762] at ov1755)
              (try rw [c1731] at ov1755)
              (try rw [c1734] at ov1755)
              (try rw [c1736] at ov1755)
              refine tr_istore dX12_readEvent_86 (by decide) (by decide) ?_
              refine tr_aload_n dX12_readEvent_88 rfl ?_
              refine q_getI dX12_readEvent_89 fl12_99 (kR15 hS1751.1 ta0) c1757 ?_
              refine q_iconst dX12_readEvent_92 (by decide) ?_
              intro v1763 h1764
              refine q_icmp_ne 97 dX12_readEvent_93 (by decide) (fun h1765 => ?_) (fun h1765 => ?_)
              · skip
                exfalso; omega
              · skip
                have eF := hF.eq
                have eP := hP.eq
                obtain ⟨v1766, c1767⟩ : ∃ v, I1744 a0 10 = v := ⟨_, rfl⟩
                have b1768 := iv15_10 hS1751.1 ta0 c1767
                obtain ⟨v1769, c1770⟩ : ∃ v, I1744 a0 11 = v := ⟨_, rfl⟩
                obtain ⟨y1771, c1772⟩ : ∃ v, L1746 a0 15 = v := ⟨_, rfl⟩
                obtain ⟨v1773, c1774⟩ : ∃ v, I1744 a0 12 = v := ⟨_, rfl⟩
                obtain ⟨v1775, c1776⟩ : ∃ v, I1744 a0 8 = v := ⟨_, rfl⟩
                have b1777 := iv15_8 hS1751.1 ta0 c1776
                exact tr_vret hZ dX12_readEvent_96 rfl (by decide) (by decide) ⟨rfl, rfl, rfl, rfl, rfl, hS1751, (fun b hb => (Option.some.inj (d2.symm.trans hb)) ▸ (((((FrM.rf (R := R0) (b := a1) (T := T)).st g1320 (by decide +kernel)).st g1392 (by decide +kernel)).st g1452 (by decide +kernel)).st g1747 (by decide +kernel))), (fun dr hd => (Option.some.inj (d2.symm.trans hd)) ▸ hO1754), (Or.inr (⟨(by (try rw [w1370]); first | done | with_reducible assumption | omega), (by (try rw [w1370]); (try rw [c1757]); first | done | with_reducible assumption | omega), (by (try rw [w1370]); (try rw [c1760]); first | done | with_reducible assumption | omega), (by (try rw [w1370]); (try rw [c1762]); first | done | with_reducible assumption | omega), trivial⟩)), trivial⟩
            · skip
              exfalso; omega
          · skip
            obtain ⟨v1778, c1779⟩ : ∃ v, I1449 a0 9 = v := ⟨_, rfl⟩
            have b1780 := iv15_9 hS1457.1 ta0 c1779
            rw [c1779] at p1481
            obtain ⟨v1781, c1782⟩ : ∃ v, I1449 a0 13 = v := ⟨_, rfl⟩
            rw [c1782] at p1482
            obtain ⟨v1783, c1784⟩ : ∃ v, I1449 a0 14 = v := ⟨_, rfl⟩
            rw [c1784] at p1483
            replace hF := hF.neg (by omega)
            replace hP := hP.neg (by omega)
            replace hF := hF.pos (by omega)
            replace hP := hP.pos (by omega)
            refine tr_istore_n dX12_readEvent_57 (by decide) (by decide) ?_
            refine tr_iload_n dX12_readEvent_58 rfl ?_
            refine q_iconst dX12_readEvent_59 (by decide) ?_
            intro v1785 h1786
            refine q_icmp_ne 69 dX12_readEvent_60 (by decide) (fun h1787 => ?_) (fun h1787 => ?_)
            · skip
              refine tr_aload_n dX12_readEvent_69 rfl ?_
              refine tr_ldcwS dX12_readEvent_70 ld12_272 ?_
              refine tr_iload_n dX12_readEvent_73 rfl ?_
              refine q_iconst dX12_readEvent_74 (by decide) ?_
              intro v1788 h1789
              refine q_iaddE dX12_readEvent_75 (by intros; omega) ?_
              intro v1790 h1791
              refine tr_aload_n dX12_readEvent_76 rfl ?_
              refine tr_getR dX12_readEvent_77 fl12_188 (kR15 hS1457.1 ta0) d2 ?_
              refine q_getI dX12_readEvent_80 fl12_192 (kR14 hS1457.1 ta1) ((hS1457.cell ta1 (by decide +kernel)).trans c30) ?_
              refine q_callVi hE (M' := mX12_readPart) (as := [_, _, _]) dX12_readEvent_83 lk12_249 inX12_readPart seX12_readPart myX12_readPart (by decide) ⟨by decide, by decide⟩ rfl (kR15 hS1457.1 ta0) (Nat.le_of_ble_eq_true rfl) rfl rfl (by decide) (by decide) (k_X12_readPart hS1457.1 ta0 (by decide)) ?_
              rintro v1796 cn' K' N' I1792 R1793 L1794 ⟨rfl, rfl, rfl, rfl, g1795, p1797, w1798, -⟩
              have hS1799 := hS1457.tr g1795 (by decide +kernel) (by decide +kernel)
              have c1800 : I1792 a1 2 = v37 := (g1795.cell ta1 (by decide +kernel)).trans c1458
              have b1801 : 1 ≤ v1796.toInt ∧ v1796.toInt ≤ 240 := by omega
              clear p1797
              have hO1802 : FrO 14 a1 T I0 I1792 := hO1459.st g1795 (by decide +kernel)
              have ov1803 := w1798.over (by rw [c1779]; omega)
              obtain ⟨v1804, c1805⟩ : ∃ v, I1792 a0 9 = v := ⟨_, rfl⟩
              have b1806 := iv15_9 hS1799.1 ta0 c1805
              obtain ⟨v1807, c1808⟩ : ∃ v, I1792 a0 13 = v := ⟨_, rfl⟩
              obtain ⟨v1809, c1810⟩ : ∃ v, I1792 a0 14 = v := ⟨_, rfl⟩
              (try rw [c1805] at ov1803)
              (try rw [c1808] at ov1803)
              (try rw [c1810] at ov1803)
              (try rw [c1779] at ov1803)
              (try rw [c1782] at ov1803)
              (try rw [c1784] at ov1803)
              refine tr_istore dX12_readEvent_86 (by decide) (by decide) ?_
              refine tr_aload_n dX12_readEvent_88 rfl ?_
              refine q_getI dX12_readEvent_89 fl12_99 (kR15 hS1799.1 ta0) c1805 ?_
              refine q_iconst dX12_readEvent_92 (by decide) ?_
              intro v1811 h1812
              refine q_icmp_ne 97 dX12_readEvent_93 (by decide) (fun h1813 => ?_) (fun h1813 => ?_)
              · skip
                exfalso; omega
              · skip
                have eF := hF.eq
                have eP := hP.eq
                obtain ⟨v1814, c1815⟩ : ∃ v, I1792 a0 10 = v := ⟨_, rfl⟩
                have b1816 := iv15_10 hS1799.1 ta0 c1815
                obtain ⟨v1817, c1818⟩ : ∃ v, I1792 a0 11 = v := ⟨_, rfl⟩
                obtain ⟨y1819, c1820⟩ : ∃ v, L1794 a0 15 = v := ⟨_, rfl⟩
                obtain ⟨v1821, c1822⟩ : ∃ v, I1792 a0 12 = v := ⟨_, rfl⟩
                obtain ⟨v1823, c1824⟩ : ∃ v, I1792 a0 8 = v := ⟨_, rfl⟩
                have b1825 := iv15_8 hS1799.1 ta0 c1824
                exact tr_vret hZ dX12_readEvent_96 rfl (by decide) (by decide) ⟨rfl, rfl, rfl, rfl, rfl, hS1799, (fun b hb => (Option.some.inj (d2.symm.trans hb)) ▸ (((((FrM.rf (R := R0) (b := a1) (T := T)).st g1320 (by decide +kernel)).st g1392 (by decide +kernel)).st g1452 (by decide +kernel)).st g1795 (by decide +kernel))), (fun dr hd => (Option.some.inj (d2.symm.trans hd)) ▸ hO1802), (Or.inr (⟨(by (try rw [w1370]); first | done | with_reducible assumption | omega), (by (try rw [w1370]); (try rw [c1805]); first | done | with_reducible assumption | omega), (by (try rw [w1370]); (try rw [c1808]); first | done | with_reducible assumption | omega), (by (try rw [w1370]); (try rw [c1810]); first | done | with_reducible assumption | omega), trivial⟩)), trivial⟩
            · skip
              exfalso; omega
        · skip
          obtain ⟨v1826, c1827⟩ : ∃ v, I1389 a0 9 = v := ⟨_, rfl⟩
          have b1828 := iv15_9 hS1397.1 ta0 c1827
          rw [c1827] at p1415
          obtain ⟨v1829, c1830⟩ : ∃ v, I1389 a0 13 = v := ⟨_, rfl⟩
          rw [c1830] at p1416
          obtain ⟨v1831, c1832⟩ : ∃ v, I1389 a0 14 = v := ⟨_, rfl⟩
          rw [c1832] at p1417
          replace hF := hF.pos (by omega)
          replace hP := hP.pos (by omega)
          refine tr_goto 42 dX12_readEvent_37 (by decide) ?_
          refine tr_istore_n dX12_readEvent_42 (by decide) (by decide) ?_
          refine tr_aload_n dX12_readEvent_43 rfl ?_
          refine q_iconst dX12_readEvent_44 (by decide) ?_
          intro v1833 h1834
          refine tr_aload_n dX12_readEvent_45 rfl ?_
          refine tr_getR dX12_readEvent_46 fl12_188 (kR15 hS1397.1 ta0) d2 ?_
          refine q_getI dX12_readEvent_49 fl12_192 (kR14 hS1397.1 ta1) ((hS1397.cell ta1 (by decide +kernel)).trans c30) ?_
          refine q_iconst dX12_readEvent_52 (by decide) ?_
          intro v1835 h1836
          refine q_isubE dX12_readEvent_53 (by intros; omega) ?_
          intro v1837 h1838
          refine q_callVi hE (M' := mX12_readWhole) (as := [_, _]) dX12_readEvent_54 lk12_161 inX12_readWhole seX12_readWhole myX12_readWhole (by decide) ⟨by decide, by decide⟩ rfl (kR15 hS1397.1 ta0) (Nat.le_of_ble_eq_true rfl) rfl rfl (by decide) (by decide) (k_X12_readWhole hS1397.1 ta0) ?_
          rintro v1843 cn' K' N' I1839 R1840 L1841 ⟨rfl, rfl, rfl, rfl, g1842, p1844, w1845, -⟩
          have hS1846 := hS1397.tr g1842 (by decide +kernel) (by decide +kernel)
          have c1847 : I1839 a1 2 = v37 := (g1842.cell ta1 (by decide +kernel)).trans c1398
          have b1848 : 0 ≤ v1843.toInt ∧ v1843.toInt ≤ 239 := by omega
          clear p1844
          have hO1849 : FrO 14 a1 T I0 I1839 := hO1399.st g1842 (by decide +kernel)
          have ov1850 := w1845.over (by rw [c1827]; omega)
          obtain ⟨v1851, c1852⟩ : ∃ v, I1839 a0 9 = v := ⟨_, rfl⟩
          have b1853 := iv15_9 hS1846.1 ta0 c1852
          obtain ⟨v1854, c1855⟩ : ∃ v, I1839 a0 13 = v := ⟨_, rfl⟩
          obtain ⟨v1856, c1857⟩ : ∃ v, I1839 a0 14 = v := ⟨_, rfl⟩
          (try rw [c1852] at ov1850)
          (try rw [c1855] at ov1850)
          (try rw [c1857] at ov1850)
          (try rw [c1827] at ov1850)
          (try rw [c1830] at ov1850)
          (try rw [c1832] at ov1850)
          refine tr_istore_n dX12_readEvent_57 (by decide) (by decide) ?_
          refine tr_iload_n dX12_readEvent_58 rfl ?_
          refine q_iconst dX12_readEvent_59 (by decide) ?_
          intro v1858 h1859
          refine q_icmp_ne 69 dX12_readEvent_60 (by decide) (fun h1860 => ?_) (fun h1860 => ?_)
          · skip
            refine tr_aload_n dX12_readEvent_69 rfl ?_
            refine tr_ldcwS dX12_readEvent_70 ld12_272 ?_
            refine tr_iload_n dX12_readEvent_73 rfl ?_
            refine q_iconst dX12_readEvent_74 (by decide) ?_
            intro v1861 h1862
            refine q_iaddE dX12_readEvent_75 (by intros; omega) ?_
            intro v1863 h1864
            refine tr_aload_n dX12_readEvent_76 rfl ?_
            refine tr_getR dX12_readEvent_77 fl12_188 (kR15 hS1846.1 ta0) d2 ?_
            refine q_getI dX12_readEvent_80 fl12_192 (kR14 hS1846.1 ta1) ((hS1846.cell ta1 (by decide +kernel)).trans c30) ?_
            refine q_callVi hE (M' := mX12_readPart) (as := [_, _, _]) dX12_readEvent_83 lk12_249 inX12_readPart seX12_readPart myX12_readPart (by decide) ⟨by decide, by decide⟩ rfl (kR15 hS1846.1 ta0) (Nat.le_of_ble_eq_true rfl) rfl rfl (by decide) (by decide) (k_X12_readPart hS1846.1 ta0 (by decide)) ?_
            rintro v1869 cn' K' N' I1865 R1866 L1867 ⟨rfl, rfl, rfl, rfl, g1868, p1870, w1871, -⟩
            have hS1872 := hS1846.tr g1868 (by decide +kernel) (by decide +kernel)
            have c1873 : I1865 a1 2 = v37 := (g1868.cell ta1 (by decide +kernel)).trans c1847
            have b1874 : 1 ≤ v1869.toInt ∧ v1869.toInt ≤ 240 := by omega
            clear p1870
            have hO1875 : FrO 14 a1 T I0 I1865 := hO1849.st g1868 (by decide +kernel)
            have ov1876 := w1871.over (by rw [c1852]; omega)
            obtain ⟨v1877, c1878⟩ : ∃ v, I1865 a0 9 = v := ⟨_, rfl⟩
            have b1879 := iv15_9 hS1872.1 ta0 c1878
            obtain ⟨v1880, c1881⟩ : ∃ v, I1865 a0 13 = v := ⟨_, rfl⟩
            obtain ⟨v1882, c1883⟩ : ∃ v, I1865 a0 14 = v := ⟨_, rfl⟩
            (try rw [c1878] at ov1876)
            (try rw [c1881] at ov1876)
            (try rw [c1883] at ov1876)
            (try rw [c1852] at ov1876)
            (try rw [c1855] at ov1876)
            (try rw [c1857] at ov1876)
            refine tr_istore dX12_readEvent_86 (by decide) (by decide) ?_
            refine tr_aload_n dX12_readEvent_88 rfl ?_
            refine q_getI dX12_readEvent_89 fl12_99 (kR15 hS1872.1 ta0) c1878 ?_
            refine q_iconst dX12_readEvent_92 (by decide) ?_
            intro v1884 h1885
            refine q_icmp_ne 97 dX12_readEvent_93 (by decide) (fun h1886 => ?_) (fun h1886 => ?_)
            · skip
              exfalso; omega
            · skip
              have eF := hF.eq
              have eP := hP.eq
              obtain ⟨v1887, c1888⟩ : ∃ v, I1865 a0 10 = v := ⟨_, rfl⟩
              have b1889 := iv15_10 hS1872.1 ta0 c1888
              obtain ⟨v1890, c1891⟩ : ∃ v, I1865 a0 11 = v := ⟨_, rfl⟩
              obtain ⟨y1892, c1893⟩ : ∃ v, L1867 a0 15 = v := ⟨_, rfl⟩
              obtain ⟨v1894, c1895⟩ : ∃ v, I1865 a0 12 = v := ⟨_, rfl⟩
              obtain ⟨v1896, c1897⟩ : ∃ v, I1865 a0 8 = v := ⟨_, rfl⟩
              have b1898 := iv15_8 hS1872.1 ta0 c1897
              exact tr_vret hZ dX12_readEvent_96 rfl (by decide) (by decide) ⟨rfl, rfl, rfl, rfl, rfl, hS1872, (fun b hb => (Option.some.inj (d2.symm.trans hb)) ▸ (((((FrM.rf (R := R0) (b := a1) (T := T)).st g1320 (by decide +kernel)).st g1392 (by decide +kernel)).st g1842 (by decide +kernel)).st g1868 (by decide +kernel))), (fun dr hd => (Option.some.inj (d2.symm.trans hd)) ▸ hO1875), (Or.inr (⟨(by (try rw [w1370]); first | done | with_reducible assumption | omega), (by (try rw [w1370]); (try rw [c1878]); first | done | with_reducible assumption | omega), (by (try rw [w1370]); (try rw [c1881]); first | done | with_reducible assumption | omega), (by (try rw [w1370]); (try rw [c1883]); first | done | with_reducible assumption | omega), trivial⟩)), trivial⟩
          · skip
            exfalso; omega
        · skip
          obtain ⟨v1899, c1900⟩ : ∃ v, I1389 a0 9 = v := ⟨_, rfl⟩
          have b1901 := iv15_9 hS1397.1 ta0 c1900
          rw [c1900] at p1421
          obtain ⟨v1902, c1903⟩ : ∃ v, I1389 a0 13 = v := ⟨_, rfl⟩
          rw [c1903] at p1422
          obtain ⟨v1904, c1905⟩ : ∃ v, I1389 a0 14 = v := ⟨_, rfl⟩
          rw [c1905] at p1423
          replace hF := hF.neg (by omega)
          replace hP := hP.neg (by omega)
          replace hF := hF.pos (by omega)
          replace hP := hP.pos (by omega)
          refine tr_goto 42 dX12_readEvent_37 (by decide) ?_
          refine tr_istore_n dX12_readEvent_42 (by decide) (by decide) ?_
          refine tr_aload_n dX12_readEvent_43 rfl ?_
          refine q_iconst dX12_readEvent_44 (by decide) ?_
          intro v1906 h1907
          refine tr_aload_n dX12_readEvent_45 rfl ?_
          refine tr_getR dX12_readEvent_46 fl12_188 (kR15 hS1397.1 ta0) d2 ?_
          refine q_getI dX12_readEvent_49 fl12_192 (kR14 hS1397.1 ta1) ((hS1397.cell ta1 (by decide +kernel)).trans c30) ?_
          refine q_iconst dX12_readEvent_52 (by decide) ?_
          intro v1908 h1909
          refine q_isubE dX12_readEvent_53 (by intros; omega) ?_
          intro v1910 h1911
          refine q_callVi hE (M' := mX12_readWhole) (as := [_, _]) dX12_readEvent_54 lk12_161 inX12_readWhole seX12_readWhole myX12_readWhole (by decide) ⟨by decide, by decide⟩ rfl (kR15 hS1397.1 ta0) (Nat.le_of_ble_eq_true rfl) rfl rfl (by decide) (by decide) (k_X12_readWhole hS1397.1 ta0) ?_
          rintro v1916 cn' K' N' I1912 R1913 L1914 ⟨rfl, rfl, rfl, rfl, g1915, p1917, w1918, -⟩
          have hS1919 := hS1397.tr g1915 (by decide +kernel) (by decide +kernel)
          have c1920 : I1912 a1 2 = v37 := (g1915.cell ta1 (by decide +kernel)).trans c1398
          have b1921 : 0 ≤ v1916.toInt ∧ v1916.toInt ≤ 239 := by omega
          clear p1917
          have hO1922 : FrO 14 a1 T I0 I1912 := hO1399.st g1915 (by decide +kernel)
          have ov1923 := w1918.over (by rw [c1900]; omega)
          obtain ⟨v1924, c1925⟩ : ∃ v, I1912 a0 9 = v := ⟨_, rfl⟩
          have b1926 := iv15_9 hS1919.1 ta0 c1925
          obtain ⟨v1927, c1928⟩ : ∃ v, I1912 a0 13 = v := ⟨_, rfl⟩
          obtain ⟨v1929, c1930⟩ : ∃ v, I1912 a0 14 = v := ⟨_, rfl⟩
          (try rw [c1925] at ov1923)
          (try rw [c1928] at ov1923)
          (try rw [c1930] at ov1923)
          (try rw [c1900] at ov1923)
          (try rw [c1903] at ov1923)
          (try rw [c1905] at ov1923)
          refine tr_istore_n dX12_readEvent_57 (by decide) (by decide) ?_
          refine tr_iload_n dX12_readEvent_58 rfl ?_
          refine q_iconst dX12_readEvent_59 (by decide) ?_
          intro v1931 h1932
          refine q_icmp_ne 69 dX12_readEvent_60 (by decide) (fun h1933 => ?_) (fun h1933 => ?_)
          · skip
            refine tr_aload_n dX12_readEvent_69 rfl ?_
            refine tr_ldcwS dX12_readEvent_70 ld12_272 ?_
            refine tr_iload_n dX12_readEvent_73 rfl ?_
            refine q_iconst dX12_readEvent_74 (by decide) ?_
            intro v1934 h1935
            refine q_iaddE dX12_readEvent_75 (by intros; omega) ?_
            intro v1936 h1937
            refine tr_aload_n dX12_readEvent_76 rfl ?_
            refine tr_getR dX12_readEvent_77 fl12_188 (kR15 hS1919.1 ta0) d2 ?_
            refine q_getI dX12_readEvent_80 fl12_192 (kR14 hS1919.1 ta1) ((hS1919.cell ta1 (by decide +kernel)).trans c30) ?_
            refine q_callVi hE (M' := mX12_readPart) (as := [_, _, _]) dX12_readEvent_83 lk12_249 inX12_readPart seX12_readPart myX12_readPart (by decide) ⟨by decide, by decide⟩ rfl (kR15 hS1919.1 ta0) (Nat.le_of_ble_eq_true rfl) rfl rfl (by decide) (by decide) (k_X12_readPart hS1919.1 ta0 (by decide)) ?_
            rintro v1942 cn' K' N' I1938 R1939 L1940 ⟨rfl, rfl, rfl, rfl, g1941, p1943, w1944, -⟩
            have hS1945 := hS1919.tr g1941 (by decide +kernel) (by decide +kernel)
            have c1946 : I1938 a1 2 = v37 := (g1941.cell ta1 (by decide +kernel)).trans c1920
            have b1947 : 1 ≤ v1942.toInt ∧ v1942.toInt ≤ 240 := by omega
            clear p1943
            have hO1948 : FrO 14 a1 T I0 I1938 := hO1922.st g1941 (by decide +kernel)
            have ov1949 := w1944.over (by rw [c1925]; omega)
            obtain ⟨v1950, c1951⟩ : ∃ v, I1938 a0 9 = v := ⟨_, rfl⟩
            have b1952 := iv15_9 hS1945.1 ta0 c1951
            obtain ⟨v1953, c1954⟩ : ∃ v, I1938 a0 13 = v := ⟨_, rfl⟩
            obtain ⟨v1955, c1956⟩ : ∃ v, I1938 a0 14 = v := ⟨_, rfl⟩
            (try rw [c1951] at ov1949)
            (try rw [c1954] at ov1949)
            (try rw [c1956] at ov1949)
            (try rw [c1925] at ov1949)
            (try rw [c1928] at ov1949)
            (try rw [c1930] at ov1949)
            refine tr_istore dX12_readEvent_86 (by decide) (by decide) ?_
            refine tr_aload_n dX12_readEvent_88 rfl ?_
            refine q_getI dX12_readEvent_89 fl12_99 (kR15 hS1945.1 ta0) c1951 ?_
            refine q_iconst dX12_readEvent_92 (by decide) ?_
            intro v1957 h1958
            refine q_icmp_ne 97 dX12_readEvent_93 (by decide) (fun h1959 => ?_) (fun h1959 => ?_)
            · skip
              exfalso; omega
            · skip
              have eF := hF.eq
              have eP := hP.eq
              obtain ⟨v1960, c1961⟩ : ∃ v, I1938 a0 10 = v := ⟨_, rfl⟩
              have b1962 := iv15_10 hS1945.1 ta0 c1961
              obtain ⟨v1963, c1964⟩ : ∃ v, I1938 a0 11 = v := ⟨_, rfl⟩
              obtain ⟨y1965, c1966⟩ : ∃ v, L1940 a0 15 = v := ⟨_, rfl⟩
              obtain ⟨v1967, c1968⟩ : ∃ v, I1938 a0 12 = v := ⟨_, rfl⟩
              obtain ⟨v1969, c1970⟩ : ∃ v, I1938 a0 8 = v := ⟨_, rfl⟩
              have b1971 := iv15_8 hS1945.1 ta0 c1970
              exact tr_vret hZ dX12_readEvent_96 rfl (by decide) (by decide) ⟨rfl, rfl, rfl, rfl, rfl, hS1945, (fun b hb => (Option.some.inj (d2.symm.trans hb)) ▸ (((((FrM.rf (R := R0) (b := a1) (T := T)).st g1320 (by decide +kernel)).st g1392 (by decide +kernel)).st g1915 (by decide +kernel)).st g1941 (by decide +kernel))), (fun dr hd => (Option.some.inj (d2.symm.trans hd)) ▸ hO1948), (Or.inr (⟨(by (try rw [w1370]); first | done | with_reducible assumption | omega), (by (try rw [w1370]); (try rw [c1951]); first | done | with_reducible assumption | omega), (by (try rw [w1370]); (try rw [c1954]); first | done | with_reducible assumption | omega), (by (try rw [w1370]); (try rw [c1956]); first | done | with_reducible assumption | omega), trivial⟩)), trivial⟩
          · skip
            exfalso; omega
      · skip
        exfalso; omega
    · skip
      obtain ⟨v1972, c1973⟩ : ∃ v, I1317 a0 9 = v := ⟨_, rfl⟩
      have b1974 := iv15_9 hS1325.1 ta0 c1973
      rw [c1973] at p1340
      obtain ⟨v1975, c1976⟩ : ∃ v, I1317 a0 13 = v := ⟨_, rfl⟩
      rw [c1976] at p1341
      obtain ⟨v1977, c1978⟩ : ∃ v, I1317 a0 14 = v := ⟨_, rfl⟩
      rw [c1978] at p1342
      have p1979 := p61
      unfold Q7M at p1979
      replace hF := hF.pos (by omega)
      replace hP := hP.pos (by omega)
      clear p1979
      refine tr_iload_n dX12_readEvent_13 rfl ?_
      refine q_iconst dX12_readEvent_14 (by decide) ?_
      intro v1980 h1981
      refine q_icmp_eq 23 dX12_readEvent_15 (by decide) (fun h1982 => ?_) (fun h1982 => ?_)
      · skip
        refine tr_aload_n dX12_readEvent_23 rfl ?_
        refine q_iconst dX12_readEvent_24 (by decide) ?_
        intro v1983 h1984
        refine tr_aload_n dX12_readEvent_25 rfl ?_
        refine tr_getR dX12_readEvent_26 fl12_188 (kR15 hS1325.1 ta0) d2 ?_
        refine q_getI dX12_readEvent_29 fl12_263 (kR14 hS1325.1 ta1) ((hS1325.cell ta1 (by decide +kernel)).trans c34) ?_
        refine q_iconst dX12_readEvent_32 (by decide) ?_
        intro v1985 h1986
        refine q_isubE dX12_readEvent_33 (by intros; omega) ?_
        intro v1987 h1988
        refine q_callVi hE (M' := mX12_readWhole) (as := [_, _]) dX12_readEvent_34 lk12_161 inX12_readWhole seX12_readWhole myX12_readWhole (by decide) ⟨by decide, by decide⟩ rfl (kR15 hS1325.1 ta0) (Nat.le_of_ble_eq_true rfl) rfl rfl (by decide) (by decide) (k_X12_readWhole hS1325.1 ta0) ?_
        rintro v1993 cn' K' N' I1989 R1990 L1991 ⟨rfl, rfl, rfl, rfl, g1992, p1994, w1995, -⟩
        have hS1996 := hS1325.tr g1992 (by decide +kernel) (by decide +kernel)
        have c1997 : I1989 a1 2 = v37 := (g1992.cell ta1 (by decide +kernel)).trans c1326
        have b1998 : 0 ≤ v1993.toInt ∧ v1993.toInt ≤ 3 := by omega
        clear p1994
        have hO1999 : FrO 14 a1 T I0 I1989 := hO1327.st g1992 (by decide +kernel)
        have ov2000 := w1995.over (by rw [c1973]; omega)
        obtain ⟨v2001, c2002⟩ : ∃ v, I1989 a0 9 = v := ⟨_, rfl⟩
        have b2003 := iv15_9 hS1996.1 ta0 c2002
        obtain ⟨v2004, c2005⟩ : ∃ v, I1989 a0 13 = v := ⟨_, rfl⟩
        obtain ⟨v2006, c2007⟩ : ∃ v, I1989 a0 14 = v := ⟨_, rfl⟩
        (try rw [c2002] at ov2000)
        (try rw [c2005] at ov2000)
        (try rw [c2007] at ov2000)
        (try rw [c1973] at ov2000)
        (try rw [c1976] at ov2000)
        (try rw [c1978] at ov2000)
        refine tr_goto 42 dX12_readEvent_37 (by decide) ?_
        refine tr_istore_n dX12_readEvent_42 (by decide) (by decide) ?_
        refine tr_aload_n dX12_readEvent_43 rfl ?_
        refine q_iconst dX12_readEvent_44 (by decide) ?_
        intro v2008 h2009
        refine tr_aload_n dX12_readEvent_45 rfl ?_
        refine tr_getR dX12_readEvent_46 fl12_188 (kR15 hS1996.1 ta0) d2 ?_
        refine q_getI dX12_readEvent_49 fl12_192 (kR14 hS1996.1 ta1) ((hS1996.cell ta1 (by decide +kernel)).trans c30) ?_
        refine q_iconst dX12_readEvent_52 (by decide) ?_
        intro v2010 h2011
        refine q_isubE dX12_readEvent_53 (by intros; omega) ?_
        intro v2012 h2013
        refine q_callVi hE (M' := mX12_readWhole) (as := [_, _]) dX12_readEvent_54 lk12_161 inX12_readWhole seX12_readWhole myX12_readWhole (by decide) ⟨by decide, by decide⟩ rfl (kR15 hS1996.1 ta0) (Nat.le_of_ble_eq_true rfl) rfl rfl (by decide) (by decide) (k_X12_readWhole hS1996.1 ta0) ?_
        rintro v2018 cn' K' N' I2014 R2015 L2016 ⟨rfl, rfl, rfl, rfl, g2017, p2019, w2020, -⟩
        have hS2021 := hS1996.tr g2017 (by decide +kernel) (by decide +kernel)
        have c2022 : I2014 a1 2 = v37 := (g2017.cell ta1 (by decide +kernel)).trans c1997
        have b2023 : 0 ≤ v2018.toInt ∧ v2018.toInt ≤ 239 := by omega
        clear p2019
        have hO2024 : FrO 14 a1 T I0 I2014 := hO1999.st g2017 (by decide +kernel)
        have ov2025 := w2020.over (by rw [c2002]; omega)
        obtain ⟨v2026, c2027⟩ : ∃ v, I2014 a0 9 = v := ⟨_, rfl⟩
        have b2028 := iv15_9 hS2021.1 ta0 c2027
        obtain ⟨v2029, c2030⟩ : ∃ v, I2014 a0 13 = v := ⟨_, rfl⟩
        obtain ⟨v2031, c2032⟩ : ∃ v, I2014 a0 14 = v := ⟨_, rfl⟩
        (try rw [c2027] at ov2025)
        (try rw [c2030] at ov2025)
        (try rw [c2032] at ov2025)
        (try rw [c2002] at ov2025)
        (try rw [c2005] at ov2025)
        (try rw [c2007] at ov2025)
        refine tr_istore_n dX12_readEvent_57 (by decide) (by decide) ?_
        refine tr_iload_n dX12_readEvent_58 rfl ?_
        refine q_iconst dX12_readEvent_59 (by decide) ?_
        intro v2033 h2034
        refine q_icmp_ne 69 dX12_readEvent_60 (by decide) (fun h2035 => ?_) (fun h2035 => ?_)
        · skip
          refine tr_aload_n dX12_readEvent_69 rfl ?_
          refine tr_ldcwS dX12_readEvent_70 ld12_272 ?_
          refine tr_iload_n dX12_readEvent_73 rfl ?_
          refine q_iconst dX12_readEvent_74 (by decide) ?_
          intro v2036 h2037
          refine q_iaddE dX12_readEvent_75 (by intros; omega) ?_
          intro v2038 h2039
          refine tr_aload_n dX12_readEvent_76 rfl ?_
          refine tr_getR dX12_readEvent_77 fl12_188 (kR15 hS2021.1 ta0) d2 ?_
          refine q_getI dX12_readEvent_80 fl12_192 (kR14 hS2021.1 ta1) ((hS2021.cell ta1 (by decide +kernel)).trans c30) ?_
          refine q_callVi hE (M' := mX12_readPart) (as := [_, _, _]) dX12_readEvent_83 lk12_249 inX12_readPart seX12_readPart myX12_readPart (by decide) ⟨by decide, by decide⟩ rfl (kR15 hS2021.1 ta0) (Nat.le_of_ble_eq_true rfl) rfl rfl (by decide) (by decide) (k_X12_readPart hS2021.1 ta0 (by decide)) ?_
          rintro v2044 cn' K' N' I2040 R2041 L2042 ⟨rfl, rfl, rfl, rfl, g2043, p2045, w2046, -⟩
          have hS2047 := hS2021.tr g2043 (by decide +kernel) (by decide +kernel)
          have c2048 : I2040 a1 2 = v37 := (g2043.cell ta1 (by decide +kernel)).trans c2022
          have b2049 : 1 ≤ v2044.toInt ∧ v2044.toInt ≤ 240 := by omega
          clear p2045
          have hO2050 : FrO 14 a1 T I0 I2040 := hO2024.st g2043 (by decide +kernel)
          have ov2051 := w2046.over (by rw [c2027]; omega)
          obtain ⟨v2052, c2053⟩ : ∃ v, I2040 a0 9 = v := ⟨_, rfl⟩
          have b2054 := iv15_9 hS2047.1 ta0 c2053
          obtain ⟨v2055, c2056⟩ : ∃ v, I2040 a0 13 = v := ⟨_, rfl⟩
          obtain ⟨v2057, c2058⟩ : ∃ v, I2040 a0 14 = v := ⟨_, rfl⟩
          (try rw [c2053] at ov2051)
          (try rw [c2056] at ov2051)
          (try rw [c2058] at ov2051)
          (try rw [c2027] at ov2051)
          (try rw [c2030] at ov2051)
          (try rw [c2032] at ov2051)
          refine tr_istore dX12_readEvent_86 (by decide) (by decide) ?_
          refine tr_aload_n dX12_readEvent_88 rfl ?_
          refine q_getI dX12_readEvent_89 fl12_99 (kR15 hS2047.1 ta0) c2053 ?_
          refine q_iconst dX12_readEvent_92 (by decide) ?_
          intro v2059 h2060
          refine q_icmp_ne 97 dX12_readEvent_93 (by decide) (fun h2061 => ?_) (fun h2061 => ?_)
          · skip
            exfalso; omega
          · skip
            have eF := hF.eq
            have eP := hP.eq
            obtain ⟨v2062, c2063⟩ : ∃ v, I2040 a0 10 = v := ⟨_, rfl⟩
            have b2064 := iv15_10 hS2047.1 ta0 c2063
            obtain ⟨v2065, c2066⟩ : ∃ v, I2040 a0 11 = v := ⟨_, rfl⟩
            obtain ⟨y2067, c2068⟩ : ∃ v, L2042 a0 15 = v := ⟨_, rfl⟩
            obtain ⟨v2069, c2070⟩ : ∃ v, I2040 a0 12 = v := ⟨_, rfl⟩
            obtain ⟨v2071, c2072⟩ : ∃ v, I2040 a0 8 = v := ⟨_, rfl⟩
            have b2073 := iv15_8 hS2047.1 ta0 c2072
            exact tr_vret hZ dX12_readEvent_96 rfl (by decide) (by decide) ⟨rfl, rfl, rfl, rfl, rfl, hS2047, (fun b hb => (Option.some.inj (d2.symm.trans hb)) ▸ (((((FrM.rf (R := R0) (b := a1) (T := T)).st g1320 (by decide +kernel)).st g1992 (by decide +kernel)).st g2017 (by decide +kernel)).st g2043 (by decide +kernel))), (fun dr hd => (Option.some.inj (d2.symm.trans hd)) ▸ hO2050), (Or.inr (⟨(by first | done | with_reducible assumption | omega), (by (try rw [c2053]); first | done | with_reducible assumption | omega), (by (try rw [c2056]); first | done | with_reducible assumption | omega), (by (try rw [c2058]); first | done | with_reducible assumption | omega), trivial⟩)), trivial⟩
        · skip
          exfalso; omega
      · skip
        exfalso; omega
    · skip
      obtain ⟨v2074, c2075⟩ : ∃ v, I1317 a0 9 = v := ⟨_, rfl⟩
      have b2076 := iv15_9 hS1325.1 ta0 c2075
      rw [c2075] at p1345
      obtain ⟨v2077, c2078⟩ : ∃ v, I1317 a0 13 = v := ⟨_, rfl⟩
      rw [c2078] at p1346
      obtain ⟨v2079, c2080⟩ : ∃ v, I1317 a0 14 = v := ⟨_, rfl⟩
      rw [c2080] at p1347
      have p2081 := p61
      unfold Q7M at p2081
      replace hF := hF.neg (by omega)
      replace hP := hP.neg (by omega)
      replace hF := hF.pos (by omega)
      replace hP := hP.pos (by omega)
      clear p2081
      refine tr_iload_n dX12_readEvent_13 rfl ?_
      refine q_iconst dX12_readEvent_14 (by decide) ?_
      intro v2082 h2083
      refine q_icmp_eq 23 dX12_readEvent_15 (by decide) (fun h2084 => ?_) (fun h2084 => ?_)
      · skip
        refine tr_aload_n dX12_readEvent_23 rfl ?_
        refine q_iconst dX12_readEvent_24 (by decide) ?_
        intro v2085 h2086
        refine tr_aload_n dX12_readEvent_25 rfl ?_
        refine tr_getR dX12_readEvent_26 fl12_188 (kR15 hS1325.1 ta0) d2 ?_
        refine q_getI dX12_readEvent_29 fl12_263 (kR14 hS1325.1 ta1) ((hS1325.cell ta1 (by decide +kernel)).trans c34) ?_
        refine q_iconst dX12_readEvent_32 (by decide) ?_
        intro v2087 h2088
        refine q_isubE dX12_readEvent_33 (by intros; omega) ?_
        intro v2089 h2090
        refine q_callVi hE (M' := mX12_readWhole) (as := [_, _]) dX12_readEvent_34 lk12_161 inX12_readWhole seX12_readWhole myX12_readWhole (by decide) ⟨by decide, by decide⟩ rfl (kR15 hS1325.1 ta0) (Nat.le_of_ble_eq_true rfl) rfl rfl (by decide) (by decide) (k_X12_readWhole hS1325.1 ta0) ?_
        rintro v2095 cn' K' N' I2091 R2092 L2093 ⟨rfl, rfl, rfl, rfl, g2094, p2096, w2097, -⟩
        have hS2098 := hS1325.tr g2094 (by decide +kernel) (by decide +kernel)
        have c2099 : I2091 a1 2 = v37 := (g2094.cell ta1 (by decide +kernel)).trans c1326
        have b2100 : 0 ≤ v2095.toInt ∧ v2095.toInt ≤ 3 := by omega
        clear p2096
        have hO2101 : FrO 14 a1 T I0 I2091 := hO1327.st g2094 (by decide +kernel)
        have ov2102 := w2097.over (by rw [c2075]; omega)
        obtain ⟨v2103, c2104⟩ : ∃ v, I2091 a0 9 = v := ⟨_, rfl⟩
        have b2105 := iv15_9 hS2098.1 ta0 c2104
        obtain ⟨v2106, c2107⟩ : ∃ v, I2091 a0 13 = v := ⟨_, rfl⟩
        obtain ⟨v2108, c2109⟩ : ∃ v, I2091 a0 14 = v := ⟨_, rfl⟩
        (try rw [c2104] at ov2102)
        (try rw [c2107] at ov2102)
        (try rw [c2109] at ov2102)
        (try rw [c2075] at ov2102)
        (try rw [c2078] at ov2102)
        (try rw [c2080] at ov2102)
        refine tr_goto 42 dX12_readEvent_37 (by decide) ?_
        refine tr_istore_n dX12_readEvent_42 (by decide) (by decide) ?_
        refine tr_aload_n dX12_readEvent_43 rfl ?_
        refine q_iconst dX12_readEvent_44 (by decide) ?_
        intro v2110 h2111
        refine tr_aload_n dX12_readEvent_45 rfl ?_
        refine tr_getR dX12_readEvent_46 fl12_188 (kR15 hS2098.1 ta0) d2 ?_
        refine q_getI dX12_readEvent_49 fl12_192 (kR14 hS2098.1 ta1) ((hS2098.cell ta1 (by decide +kernel)).trans c30) ?_
        refine q_iconst dX12_readEvent_52 (by decide) ?_
        intro v2112 h2113
        refine q_isubE dX12_readEvent_53 (by intros; omega) ?_
        intro v2114 h2115
        refine q_callVi hE (M' := mX12_readWhole) (as := [_, _]) dX12_readEvent_54 lk12_161 inX12_readWhole seX12_readWhole myX12_readWhole (by decide) ⟨by decide, by decide⟩ rfl (kR15 hS2098.1 ta0) (Nat.le_of_ble_eq_true rfl) rfl rfl (by decide) (by decide) (k_X12_readWhole hS2098.1 ta0) ?_
        rintro v2120 cn' K' N' I2116 R2117 L2118 ⟨rfl, rfl, rfl, rfl, g2119, p2121, w2122, -⟩
        have hS2123 := hS2098.tr g2119 (by decide +kernel) (by decide +kernel)
        have c2124 : I2116 a1 2 = v37 := (g2119.cell ta1 (by decide +kernel)).trans c2099
        have b2125 : 0 ≤ v2120.toInt ∧ v2120.toInt ≤ 0 := by omega
        clear p2121
        have hO2126 : FrO 14 a1 T I0 I2116 := hO2101.st g2119 (by decide +kernel)
        have ov2127 := w2122.over (by rw [c2104]; omega)
        obtain ⟨v2128, c2129⟩ : ∃ v, I2116 a0 9 = v := ⟨_, rfl⟩
        have b2130 := iv15_9 hS2123.1 ta0 c2129
        obtain ⟨v2131, c2132⟩ : ∃ v, I2116 a0 13 = v := ⟨_, rfl⟩
        obtain ⟨v2133, c2134⟩ : ∃ v, I2116 a0 14 = v := ⟨_, rfl⟩
        (try rw [c2129] at ov2127)
        (try rw [c2132] at ov2127)
        (try rw [c2134] at ov2127)
        (try rw [c2104] at ov2127)
        (try rw [c2107] at ov2127)
        (try rw [c2109] at ov2127)
        refine tr_istore_n dX12_readEvent_57 (by decide) (by decide) ?_
        refine tr_iload_n dX12_readEvent_58 rfl ?_
        refine q_iconst dX12_readEvent_59 (by decide) ?_
        intro v2135 h2136
        refine q_icmp_ne 69 dX12_readEvent_60 (by decide) (fun h2137 => ?_) (fun h2137 => ?_)
        · skip
          refine tr_aload_n dX12_readEvent_69 rfl ?_
          refine tr_ldcwS dX12_readEvent_70 ld12_272 ?_
          refine tr_iload_n dX12_readEvent_73 rfl ?_
          refine q_iconst dX12_readEvent_74 (by decide) ?_
          intro v2138 h2139
          refine q_iaddE dX12_readEvent_75 (by intros; omega) ?_
          intro v2140 h2141
          refine tr_aload_n dX12_readEvent_76 rfl ?_
          refine tr_getR dX12_readEvent_77 fl12_188 (kR15 hS2123.1 ta0) d2 ?_
          refine q_getI dX12_readEvent_80 fl12_192 (kR14 hS2123.1 ta1) ((hS2123.cell ta1 (by decide +kernel)).trans c30) ?_
          refine q_callVi hE (M' := mX12_readPart) (as := [_, _, _]) dX12_readEvent_83 lk12_249 inX12_readPart seX12_readPart myX12_readPart (by decide) ⟨by decide, by decide⟩ rfl (kR15 hS2123.1 ta0) (Nat.le_of_ble_eq_true rfl) rfl rfl (by decide) (by decide) (k_X12_readPart hS2123.1 ta0 (by decide)) ?_
          rintro v2146 cn' K' N' I2142 R2143 L2144 ⟨rfl, rfl, rfl, rfl, g2145, p2147, w2148, -⟩
          have hS2149 := hS2123.tr g2145 (by decide +kernel) (by decide +kernel)
          have c2150 : I2142 a1 2 = v37 := (g2145.cell ta1 (by decide +kernel)).trans c2124
          have b2151 : 1 ≤ v2146.toInt ∧ v2146.toInt ≤ 1 := by omega
          clear p2147
          have hO2152 : FrO 14 a1 T I0 I2142 := hO2126.st g2145 (by decide +kernel)
          have ov2153 := w2148.over (by rw [c2129]; omega)
          obtain ⟨v2154, c2155⟩ : ∃ v, I2142 a0 9 = v := ⟨_, rfl⟩
          have b2156 := iv15_9 hS2149.1 ta0 c2155
          obtain ⟨v2157, c2158⟩ : ∃ v, I2142 a0 13 = v := ⟨_, rfl⟩
          obtain ⟨v2159, c2160⟩ : ∃ v, I2142 a0 14 = v := ⟨_, rfl⟩
          (try rw [c2155] at ov2153)
          (try rw [c2158] at ov2153)
          (try rw [c2160] at ov2153)
          (try rw [c2129] at ov2153)
          (try rw [c2132] at ov2153)
          (try rw [c2134] at ov2153)
          refine tr_istore dX12_readEvent_86 (by decide) (by decide) ?_
          refine tr_aload_n dX12_readEvent_88 rfl ?_
          refine q_getI dX12_readEvent_89 fl12_99 (kR15 hS2149.1 ta0) c2155 ?_
          refine q_iconst dX12_readEvent_92 (by decide) ?_
          intro v2161 h2162
          refine q_icmp_ne 97 dX12_readEvent_93 (by decide) (fun h2163 => ?_) (fun h2163 => ?_)
          · skip
            exfalso; omega
          · skip
            have eF := hF.eq
            have eP := hP.eq
            obtain ⟨v2164, c2165⟩ : ∃ v, I2142 a0 10 = v := ⟨_, rfl⟩
            have b2166 := iv15_10 hS2149.1 ta0 c2165
            obtain ⟨v2167, c2168⟩ : ∃ v, I2142 a0 11 = v := ⟨_, rfl⟩
            obtain ⟨y2169, c2170⟩ : ∃ v, L2144 a0 15 = v := ⟨_, rfl⟩
            obtain ⟨v2171, c2172⟩ : ∃ v, I2142 a0 12 = v := ⟨_, rfl⟩
            obtain ⟨v2173, c2174⟩ : ∃ v, I2142 a0 8 = v := ⟨_, rfl⟩
            have b2175 := iv15_8 hS2149.1 ta0 c2174
            exact tr_vret hZ dX12_readEvent_96 rfl (by decide) (by decide) ⟨rfl, rfl, rfl, rfl, rfl, hS2149, (fun b hb => (Option.some.inj (d2.symm.trans hb)) ▸ (((((FrM.rf (R := R0) (b := a1) (T := T)).st g1320 (by decide +kernel)).st g2094 (by decide +kernel)).st g2119 (by decide +kernel)).st g2145 (by decide +kernel))), (fun dr hd => (Option.some.inj (d2.symm.trans hd)) ▸ hO2152), (Or.inr (⟨(by first | done | with_reducible assumption | omega), (by (try rw [c2155]); first | done | with_reducible assumption | omega), (by (try rw [c2158]); first | done | with_reducible assumption | omega), (by (try rw [c2160]); first | done | with_reducible assumption | omega), trivial⟩)), trivial⟩
        · skip
          exfalso; omega
      · skip
        exfalso; omega
  · skip
    refine tr_aload_n dX12_readEvent_0 rfl ?_
    refine tr_aload_n dX12_readEvent_1 rfl ?_
    refine tr_getR dX12_readEvent_2 fl12_188 (kR15 hS0.1 ta0) d2 ?_
    refine q_getI dX12_readEvent_5 fl12_265 (kR14 hS0.1 ta1) c38 ?_
    refine q_bipush dX12_readEvent_8 (by decide +kernel) ?_
    intro v2176 h2177
    refine q_callVv hE (M' := mX12_begins) (as := [_, _]) dX12_readEvent_10 lk12_268 inX12_begins seX12_begins myX12_begins (by decide) ⟨by decide, by decide⟩ rfl (kR15 hS0.1 ta0) (Nat.le_of_ble_eq_true rfl) rfl rfl (by decide) (by decide) (fk_X12_begins hS0.1 (gB) (gs) (gQ) ta0 (TxA.kp hT hS0 ta0 rfl rfl rfl (by decide +kernel) (by decide +kernel)) (by (try rw [c4]); first | done | with_reducible assumption | omega) (by (try rw [c4]); first | done | with_reducible assumption | omega) (by (try rw [c9]); first | done | with_reducible assumption | omega) (by (try rw [c13]); first | done | with_reducible assumption | omega) (by (try rw [c16]); first | done | assumption) (by (try rw [c19]); first | done | assumption) (by (try rw [c22]); first | done | assumption) (by (try rw [c26]); first | done | with_reducible assumption | omega) (fun q0 z0 => by obtain rfl := Option.some.inj ((d2).symm.trans z0); (try rw [c30]); first | done | with_reducible assumption | omega) (by first | done | with_reducible assumption | omega) ⟨_, d2⟩) ?_
    rintro cn' K' N' I2178 R2179 L2180 ⟨rfl, rfl, rfl, rfl, g2181, dj2184, -⟩
    have hM2185 : NmM I2178 R0 L0 a1 gQ := NmM.kpS hM0 g2181 hS0.1 ta1 (by decide +kernel) (by decide +kernel)
    have hS2186 := hS0.tr g2181 (by decide +kernel) (by decide +kernel)
    have c2187 : I2178 a1 2 = v37 := (g2181.cell ta1 (by decide +kernel)).trans c38
    have hO2188 : FrO 14 a1 T I0 I2178 := hO0.st g2181 (by decide +kernel)
    rcases dj2184 with ⟨p2189, p2190, p2191, p2192, p2193, p2194, p2195, p2196, p2197, p2198, gl2199, -⟩ | ⟨p2200, p2201, p2202, p2203, -⟩ | ⟨p2204, p2205, p2206, p2207, p2208, -⟩
    · skip
      have hL2209 := hL0.tr gl2199 (by decide +kernel)
      have hM2210 : NmM I2178 R0 L2180 a1 gQ := NmM.kpL hM2185 gl2199 hS2186.1 ta1 (by decide +kernel)
      obtain ⟨v2211, c2212⟩ : ∃ v, I2178 a0 13 = v := ⟨_, rfl⟩
      rw [c2212] at p2191
      rw [c65] at p2191
      obtain ⟨v2213, c2214⟩ : ∃ v, I2178 a0 9 = v := ⟨_, rfl⟩
      have b2215 := iv15_9 hS2186.1 ta0 c2214
      rw [c2214] at p2192
      rw [c2214] at p2193
      obtain ⟨v2216, c2217⟩ : ∃ v, I2178 a0 10 = v := ⟨_, rfl⟩
      have b2218 := iv15_10 hS2186.1 ta0 c2217
      rw [c2217] at p2194
      obtain ⟨v2219, c2220⟩ : ∃ v, I2178 a0 11 = v := ⟨_, rfl⟩
      rw [c2220] at p2195
      obtain ⟨y2221, c2222⟩ : ∃ v, L2180 a0 15 = v := ⟨_, rfl⟩
      rw [c2222] at p2196
      obtain ⟨v2223, c2224⟩ : ∃ v, I2178 a0 12 = v := ⟨_, rfl⟩
      rw [c2224] at p2197
      obtain ⟨v2225, c2226⟩ : ∃ v, I2178 a0 8 = v := ⟨_, rfl⟩
      have b2227 := iv15_8 hS2186.1 ta0 c2226
      rw [c2226] at p2198
      have p2228 := p61
      unfold Q7M at p2228
      replace hF := hF.neg (by omega)
      replace hP := hP.neg (by omega)
      replace hF := hF.neg (by omega)
      replace hP := hP.neg (by omega)
      clear p2228
      obtain ⟨w2229, w2230, w2231, w2232, w2233, w2234, w2235, w2236, w2237, w2238, w2239, w2240⟩ := lnl_e (B := gB) (Q := gQ) (s := gs) (by omega) (by omega)
      replace hF := hF.to w2229 (evF_c2 (B := gB) (Q := gQ) (k := srt gB gs) (s := (tkN gB gs)) (by omega))
      replace hP := hP.to w2230 (evP_c2 (B := gB) (Q := gQ) (k := srt gB gs) (s := (tkN gB gs)) (by omega))
      refine tr_iload_n dX12_readEvent_13 rfl ?_
      refine q_iconst dX12_readEvent_14 (by decide) ?_
      intro v2241 h2242
      refine q_icmp_eq 23 dX12_readEvent_15 (by decide) (fun h2243 => ?_) (fun h2243 => ?_)
      · skip
        exfalso; omega
      · skip
        refine tr_iload_n dX12_readEvent_18 rfl ?_
        refine q_iconst dX12_readEvent_19 (by decide) ?_
        intro v2244 h2245
        refine q_icmp_ne 40 dX12_readEvent_20 (by decide) (fun h2246 => ?_) (fun h2246 => ?_)
        · skip
          exfalso; omega
        · skip
          refine tr_aload_n dX12_readEvent_23 rfl ?_
          refine q_iconst dX12_readEvent_24 (by decide) ?_
          intro v2247 h2248
          refine tr_aload_n dX12_readEvent_25 rfl ?_
          refine tr_getR dX12_readEvent_26 fl12_188 (kR15 hS2186.1 ta0) d2 ?_
          refine q_getI dX12_readEvent_29 fl12_263 (kR14 hS2186.1 ta1) ((hS2186.cell ta1 (by decide +kernel)).trans c34) ?_
          refine q_iconst dX12_readEvent_32 (by decide) ?_
          intro v2249 h2250
          refine q_isubE dX12_readEvent_33 (by intros; omega) ?_
          intro v2251 h2252
          refine q_callVi hE (M' := mX12_readWhole) (as := [_, _]) dX12_readEvent_34 lk12_161 inX12_readWhole seX12_readWhole myX12_readWhole (by decide) ⟨by decide, by decide⟩ rfl (kR15 hS2186.1 ta0) (Nat.le_of_ble_eq_true rfl) rfl rfl (by decide) (by decide) (fk_X12_readWhole hS2186.1 (gB) ((tkN gB gs)) ta0 (TxA.kp hT hS2186 ta0 rfl rfl rfl (by decide +kernel) (by decide +kernel)) (by (try rw [c2214]); first | done | with_reducible assumption | omega) (by (try rw [c2214]); first | done | with_reducible assumption | omega) (by (try rw [c2217]); first | done | with_reducible assumption | omega) (by (try rw [c2220]); first | done | with_reducible assumption | omega) (by (try rw [c2222]); first | done | assumption) (by (try rw [c2224]); first | done | assumption) (by (try rw [c2226]); first | done | assumption) (by (try rw [((hS2186.cell ta0 (by decide +kernel)).trans c26)]); first | done | with_reducible assumption | omega)) ?_
          rintro v2258 cn' K' N' I2253 R2254 L2255 ⟨rfl, rfl, rfl, rfl, g2256, dj2259, -⟩
          have hM2260 : NmM I2253 R0 L2180 a1 gQ := NmM.kpS hM2210 g2256 hS2186.1 ta1 (by decide +kernel) (by decide +kernel)
          have hS2261 := hS2186.tr g2256 (by decide +kernel) (by decide +kernel)
          have c2262 : I2253 a1 2 = v37 := (g2256.cell ta1 (by decide +kernel)).trans c2187
          have hO2263 : FrO 14 a1 T I0 I2253 := hO2188.st g2256 (by decide +kernel)
          rcases dj2259 with ⟨p2264, p2265, p2266, p2267, p2268, p2269, p2270, p2271, p2272, p2273, p2274, p2275, gl2276, -⟩ | ⟨p2277, p2278, p2279, p2280, p2281, -⟩ | ⟨p2282, p2283, p2284, p2285, p2286, p2287, -⟩
          · skip
            have hL2288 := hL2209.tr gl2276 (by decide +kernel)
            have hM2289 : NmM I2253 R0 L2255 a1 gQ := NmM.kpL hM2260 gl2276 hS2261.1 ta1 (by decide +kernel)
            obtain ⟨v2290, c2291⟩ : ∃ v, I2253 a0 13 = v := ⟨_, rfl⟩
            rw [c2291] at p2268
            rw [c2212] at p2268
            obtain ⟨v2292, c2293⟩ : ∃ v, I2253 a0 9 = v := ⟨_, rfl⟩
            have b2294 := iv15_9 hS2261.1 ta0 c2293
            rw [c2293] at p2269
            rw [c2293] at p2270
            obtain ⟨v2295, c2296⟩ : ∃ v, I2253 a0 10 = v := ⟨_, rfl⟩
            have b2297 := iv15_10 hS2261.1 ta0 c2296
            rw [c2296] at p2271
            obtain ⟨v2298, c2299⟩ : ∃ v, I2253 a0 11 = v := ⟨_, rfl⟩
            rw [c2299] at p2272
            obtain ⟨y2300, c2301⟩ : ∃ v, L2255 a0 15 = v := ⟨_, rfl⟩
            rw [c2301] at p2273
            obtain ⟨v2302, c2303⟩ : ∃ v, I2253 a0 12 = v := ⟨_, rfl⟩
            rw [c2303] at p2274
            obtain ⟨v2304, c2305⟩ : ∃ v, I2253 a0 8 = v := ⟨_, rfl⟩
            have b2306 := iv15_8 hS2261.1 ta0 c2305
            rw [c2305] at p2275
            replace hF := hF.neg (by omega)
            replace hP := hP.neg (by omega)
            replace hF := hF.neg (by omega)
            replace hP := hP.neg (by omega)
            refine tr_goto 42 dX12_readEvent_37 (by decide) ?_
            refine tr_istore_n dX12_readEvent_42 (by decide) (by decide) ?_
            refine tr_aload_n dX12_readEvent_43 rfl ?_
            refine q_iconst dX12_readEvent_44 (by decide) ?_
            intro v2307 h2308
            refine tr_aload_n dX12_readEvent_45 rfl ?_
            refine tr_getR dX12_readEvent_46 fl12_188 (kR15 hS2261.1 ta0) d2 ?_
            refine q_getI dX12_readEvent_49 fl12_192 (kR14 hS2261.1 ta1) ((hS2261.cell ta1 (by decide +kernel)).trans c30) ?_
            refine q_iconst dX12_readEvent_52 (by decide) ?_
            intro v2309 h2310
            refine q_isubE dX12_readEvent_53 (by intros; omega) ?_
            intro v2311 h2312
            refine q_callVi hE (M' := mX12_readWhole) (as := [_, _]) dX12_readEvent_54 lk12_161 inX12_readWhole seX12_readWhole myX12_readWhole (by decide) ⟨by decide, by decide⟩ rfl (kR15 hS2261.1 ta0) (Nat.le_of_ble_eq_true rfl) rfl rfl (by decide) (by decide) (fk_X12_readWhole hS2261.1 (gB) ((tkN gB (tkN gB gs))) ta0 (TxA.kp hT hS2261 ta0 rfl rfl rfl (by decide +kernel) (by decide +kernel)) (by (try rw [c2293]); first | done | with_reducible assumption | omega) (by (try rw [c2293]); first | done | with_reducible assumption | omega) (by (try rw [c2296]); first | done | with_reducible assumption | omega) (by (try rw [c2299]); first | done | with_reducible assumption | omega) (by (try rw [c2301]); first | done | assumption) (by (try rw [c2303]); first | done | assumption) (by (try rw [c2305]); first | done | assumption) (by (try rw [((hS2261.cell ta0 (by decide +kernel)).trans c26)]); first | done | with_reducible assumption | omega)) ?_
            rintro v2318 cn' K' N' I2313 R2314 L2315 ⟨rfl, rfl, rfl, rfl, g2316, dj2319, -⟩
            have hM2320 : NmM I2313 R0 L2255 a1 gQ := NmM.kpS hM2289 g2316 hS2261.1 ta1 (by decide +kernel) (by decide +kernel)
            have hS2321 := hS2261.tr g2316 (by decide +kernel) (by decide +kernel)
            have c2322 : I2313 a1 2 = v37 := (g2316.cell ta1 (by decide +kernel)).trans c2262
            have hO2323 : FrO 14 a1 T I0 I2313 := hO2263.st g2316 (by decide +kernel)
            rcases dj2319 with ⟨p2324, p2325, p2326, p2327, p2328, p2329, p2330, p2331, p2332, p2333, p2334, p2335, gl2336, -⟩ | ⟨p2337, p2338, p2339, p2340, p2341, -⟩ | ⟨p2342, p2343, p2344, p2345, p2346, p2347, -⟩
            · skip
              have hL2348 := hL2288.tr gl2336 (by decide +kernel)
              have hM2349 : NmM I2313 R0 L2315 a1 gQ := NmM.kpL hM2320 gl2336 hS2321.1 ta1 (by decide +kernel)
              obtain ⟨v2350, c2351⟩ : ∃ v, I2313 a0 13 = v := ⟨_, rfl⟩
              rw [c2351] at p2328
              rw [c2291] at p2328
              obtain ⟨v2352, c2353⟩ : ∃ v, I2313 a0 9 = v := ⟨_, rfl⟩
              have b2354 := iv15_9 hS2321.1 ta0 c2353
              rw [c2353] at p2329
              rw [c2353] at p2330
              obtain ⟨v2355, c2356⟩ : ∃ v, I2313 a0 10 = v := ⟨_, rfl⟩
              have b2357 := iv15_10 hS2321.1 ta0 c2356
              rw [c2356] at p2331
              obtain ⟨v2358, c2359⟩ : ∃ v, I2313 a0 11 = v := ⟨_, rfl⟩
              rw [c2359] at p2332
              obtain ⟨y2360, c2361⟩ : ∃ v, L2315 a0 15 = v := ⟨_, rfl⟩
              rw [c2361] at p2333
              obtain ⟨v2362, c2363⟩ : ∃ v, I2313 a0 12 = v := ⟨_, rfl⟩
              rw [c2363] at p2334
              obtain ⟨v2364, c2365⟩ : ∃ v, I2313 a0 8 = v := ⟨_, rfl⟩
              have b2366 := iv15_8 hS2321.1 ta0 c2365
              rw [c2365] at p2335
              replace hF := hF.neg (by omega)
              replace hP := hP.neg (by omega)
              replace hF := hF.neg (by omega)
              replace hP := hP.neg (by omega)
              refine tr_istore_n dX12_readEvent_57 (by decide) (by decide) ?_
              refine tr_iload_n dX12_readEvent_58 rfl ?_
              refine q_iconst dX12_readEvent_59 (by decide) ?_
              intro v2367 h2368
              refine q_icmp_ne 69 dX12_readEvent_60 (by decide) (fun h2369 => ?_) (fun h2369 => ?_)
              · skip
                refine tr_aload_n dX12_readEvent_69 rfl ?_
                refine tr_ldcwS dX12_readEvent_70 ld12_272 ?_
                refine tr_iload_n dX12_readEvent_73 rfl ?_
                refine q_iconst dX12_readEvent_74 (by decide) ?_
                intro v2370 h2371
                refine q_iaddE dX12_readEvent_75 (by intros; omega) ?_
                intro v2372 h2373
                refine tr_aload_n dX12_readEvent_76 rfl ?_
                refine tr_getR dX12_readEvent_77 fl12_188 (kR15 hS2321.1 ta0) d2 ?_
                refine q_getI dX12_readEvent_80 fl12_192 (kR14 hS2321.1 ta1) ((hS2321.cell ta1 (by decide +kernel)).trans c30) ?_
                refine q_callVi hE (M' := mX12_readPart) (as := [_, _, _]) dX12_readEvent_83 lk12_249 inX12_readPart seX12_readPart myX12_readPart (by decide) ⟨by decide, by decide⟩ rfl (kR15 hS2321.1 ta0) (Nat.le_of_ble_eq_true rfl) rfl rfl (by decide) (by decide) (fk_X12_readPart hS2321.1 (gB) ((tkN gB (tkN gB (tkN gB gs)))) ta0 (by decide) (TxA.kp hT hS2321 ta0 rfl rfl rfl (by decide +kernel) (by decide +kernel)) (by (try rw [c2353]); first | done | with_reducible assumption | omega) (by (try rw [c2353]); first | done | with_reducible assumption | omega) (by (try rw [c2356]); first | done | with_reducible assumption | omega) (by (try rw [c2359]); first | done | with_reducible assumption | omega) (by (try rw [c2361]); first | done | assumption) (by (try rw [c2363]); first | done | assumption) (by (try rw [c2365]); first | done | assumption) (by (try rw [((hS2321.cell ta0 (by decide +kernel)).trans c26)]); first | done | with_reducible assumption | omega)) ?_
                rintro v2379 cn' K' N' I2374 R2375 L2376 ⟨rfl, rfl, rfl, rfl, g2377, dj2380, -⟩
                (try rw [pk_25] at dj2380)
                have hM2381 : NmM I2374 R0 L2315 a1 gQ := NmM.kpS hM2349 g2377 hS2321.1 ta1 (by decide +kernel) (by decide +kernel)
                have hS2382 := hS2321.tr g2377 (by decide +kernel) (by decide +kernel)
                have c2383 : I2374 a1 2 = v37 := (g2377.cell ta1 (by decide +kernel)).trans c2322
                have hO2384 : FrO 14 a1 T I0 I2374 := hO2323.st g2377 (by decide +kernel)
                rcases dj2380 with ⟨p2385, p2386, p2387, p2388, p2389, p2390, p2391, p2392, p2393, p2394, p2395, p2396, p2397, p2398, gl2399, -⟩ | ⟨p2400, p2401, p2402, p2403, p2404, -⟩ | ⟨p2405, p2406, p2407, p2408, p2409, p2410, p2411, -⟩ | ⟨p2412, p2413, p2414, p2415, p2416, p2417, p2418, p2419, -⟩
                · skip
                  have hL2420 := hL2348.tr gl2399 (by decide +kernel)
                  have hM2421 : NmM I2374 R0 L2376 a1 gQ := NmM.kpL hM2381 gl2399 hS2382.1 ta1 (by decide +kernel)
                  obtain ⟨v2422, c2423⟩ : ∃ v, I2374 a0 13 = v := ⟨_, rfl⟩
                  rw [c2423] at p2391
                  rw [c2351] at p2391
                  obtain ⟨v2424, c2425⟩ : ∃ v, I2374 a0 9 = v := ⟨_, rfl⟩
                  have b2426 := iv15_9 hS2382.1 ta0 c2425
                  rw [c2425] at p2392
                  rw [c2425] at p2393
                  obtain ⟨v2427, c2428⟩ : ∃ v, I2374 a0 10 = v := ⟨_, rfl⟩
                  have b2429 := iv15_10 hS2382.1 ta0 c2428
                  rw [c2428] at p2394
                  obtain ⟨v2430, c2431⟩ : ∃ v, I2374 a0 11 = v := ⟨_, rfl⟩
                  rw [c2431] at p2395
                  obtain ⟨y2432, c2433⟩ : ∃ v, L2376 a0 15 = v := ⟨_, rfl⟩
                  rw [c2433] at p2396
                  obtain ⟨v2434, c2435⟩ : ∃ v, I2374 a0 12 = v := ⟨_, rfl⟩
                  rw [c2435] at p2397
                  obtain ⟨v2436, c2437⟩ : ∃ v, I2374 a0 8 = v := ⟨_, rfl⟩
                  have b2438 := iv15_8 hS2382.1 ta0 c2437
                  rw [c2437] at p2398
                  replace hF := hF.neg (by omega)
                  replace hP := hP.neg (by omega)
                  replace hF := hF.neg (by omega)
                  replace hP := hP.neg (by omega)
                  replace hF := hF.neg (by omega)
                  replace hP := hP.neg (by omega)
                  refine tr_istore dX12_readEvent_86 (by decide) (by decide) ?_
                  refine tr_aload_n dX12_readEvent_88 rfl ?_
                  refine q_getI dX12_readEvent_89 fl12_99 (kR15 hS2382.1 ta0) c2425 ?_
                  refine q_iconst dX12_readEvent_92 (by decide) ?_
                  intro v2439 h2440
                  refine q_icmp_ne 97 dX12_readEvent_93 (by decide) (fun h2441 => ?_) (fun h2441 => ?_)
                  · skip
                    refine tr_aload_n dX12_readEvent_97 rfl ?_
                    refine tr_getR dX12_readEvent_98 fl12_188 (kR15 hS2382.1 ta0) d2 ?_
                    refine q_getI dX12_readEvent_101 fl12_265 (kR14 hS2382.1 ta1) c2383 ?_
                    refine tr_istore dX12_readEvent_104 (by decide) (by decide) ?_
                    refine tr_aload_n dX12_readEvent_106 rfl ?_
                    refine tr_getR dX12_readEvent_107 fl12_188 (kR15 hS2382.1 ta0) d2 ?_
                    refine tr_getR dX12_readEvent_110 fl12_274 (kR14 hS2382.1 ta1) d67 ?_
                    refine tr_iload dX12_readEvent_113 rfl ?_
                    refine tr_iload_n dX12_readEvent_115 rfl ?_
                    refine q_iastX dX12_readEvent_116 (kR54 hS2382.1 ta66) (ti_in (nR54 hS2382.1 ta66) (by omega) (by omega)) hS2382 ta66 (by rfl) (hS2382.1.putK (m := a1) ta1 d67 (by rw [c2383]; exact Int.le_of_eq (ti_nat (by omega)).symm)) ?_
                    intro I2446 hS2447 e2448 f2449
                    have c2450 : I2446 a1 2 = v37 := (f2449 _ _ (fun q => by have z := ta1; rw [q.1, ta66] at z; exact absurd z (by decide))).trans c2383
                    have c2451 : I2446 a0 13 = v2422 := (f2449 _ _ (fun q => by have z := ta0; rw [q.1, ta66] at z; exact absurd z (by decide))).trans c2423
                    have c2452 : I2446 a0 9 = v2424 := (f2449 _ _ (fun q => by have z := ta0; rw [q.1, ta66] at z; exact absurd z (by decide))).trans c2425
                    have c2453 : I2446 a0 10 = v2427 := (f2449 _ _ (fun q => by have z := ta0; rw [q.1, ta66] at z; exact absurd z (by decide))).trans c2428
                    have c2454 : I2446 a0 11 = v2430 := (f2449 _ _ (fun q => by have z := ta0; rw [q.1, ta66] at z; exact absurd z (by decide))).trans c2431
                    have c2455 : I2446 a0 12 = v2434 := (f2449 _ _ (fun q => by have z := ta0; rw [q.1, ta66] at z; exact absurd z (by decide))).trans c2435
                    have c2456 : I2446 a0 8 = v2436 := (f2449 _ _ (fun q => by have z := ta0; rw [q.1, ta66] at z; exact absurd z (by decide))).trans c2437
                    have hO2457 : FrO 14 a1 T I0 I2446 := hO2384.put f2449 ta66 (Or.inl (by decide))
                    have hM2458 : NmM I2446 R0 L2376 a1 gQ := NmM.kp1 hM2421 f2449 ta66 rfl rfl hS2382.1 ta1
                    refine tr_aload_n dX12_readEvent_117 rfl ?_
                    refine tr_getR dX12_readEvent_118 fl12_188 (kR15 hS2447.1 ta0) d2 ?_
                    refine tr_getR dX12_readEvent_121 fl12_277 (kR14 hS2447.1 ta1) d69 ?_
                    refine tr_iload dX12_readEvent_124 rfl ?_
                    refine tr_iload_n dX12_readEvent_126 rfl ?_
                    refine q_iastX dX12_readEvent_127 (kR55 hS2447.1 ta68) (ti_in (nR55 hS2447.1 ta68) (by omega) (by omega)) hS2447 ta68 (by rfl) (hS2447.1.putH (m := a1) ta1 d69 (by rw [c2450]; exact Int.le_of_eq (ti_nat (by omega)).symm) (by omega)) ?_
                    intro I2463 hS2464 e2465 f2466
                    have c2467 : I2463 a1 2 = v37 := (f2466 _ _ (fun q => by have z := ta1; rw [q.1, ta68] at z; exact absurd z (by decide))).trans c2450
                    have c2468 : I2463 a0 13 = v2422 := (f2466 _ _ (fun q => by have z := ta0; rw [q.1, ta68] at z; exact absurd z (by decide))).trans c2451
                    have c2469 : I2463 a0 9 = v2424 := (f2466 _ _ (fun q => by have z := ta0; rw [q.1, ta68] at z; exact absurd z (by decide))).trans c2452
                    have c2470 : I2463 a0 10 = v2427 := (f2466 _ _ (fun q => by have z := ta0; rw [q.1, ta68] at z; exact absurd z (by decide))).trans c2453
                    have c2471 : I2463 a0 11 = v2430 := (f2466 _ _ (fun q => by have z := ta0; rw [q.1, ta68] at z; exact absurd z (by decide))).trans c2454
                    have c2472 : I2463 a0 12 = v2434 := (f2466 _ _ (fun q => by have z := ta0; rw [q.1, ta68] at z; exact absurd z (by decide))).trans c2455
                    have c2473 : I2463 a0 8 = v2436 := (f2466 _ _ (fun q => by have z := ta0; rw [q.1, ta68] at z; exact absurd z (by decide))).trans c2456
                    have c2474 : I2463 a66 v37.toNatClampNeg = x1 := (f2466 _ _ (fun q => by have z := ta66; rw [q.1, ta68] at z; exact absurd z (by decide))).trans e2448
                    have hO2475 : FrO 14 a1 T I0 I2463 := hO2457.put f2466 ta68 (Or.inl (by decide))
                    have hM2476 : NmM I2463 R0 L2376 a1 gQ := NmM.kp1 hM2458 f2466 ta68 rfl rfl hS2447.1 ta1
                    refine tr_aload_n dX12_readEvent_128 rfl ?_
                    refine tr_getR dX12_readEvent_129 fl12_188 (kR15 hS2464.1 ta0) d2 ?_
                    refine tr_getR dX12_readEvent_132 fl12_280 (kR14 hS2464.1 ta1) d71 ?_
                    refine tr_iload dX12_readEvent_135 rfl ?_
                    refine tr_iload_n dX12_readEvent_137 rfl ?_
                    refine q_iast dX12_readEvent_138 (kR56 hS2464.1 ta70) (ti_in (nR56 hS2464.1 ta70) (by omega) (by omega)) hS2464 ta70 (by show (0 : Int) ≤ v2318.toInt ∧ v2318.toInt ≤ (240 : Int); omega) rfl (by rfl) ?_
                    intro I2477 hS2478 e2480 f2479
                    have c2481 : I2477 a1 2 = v37 := (f2479 _ _ (fun q => by have z := ta1; rw [q.1, ta70] at z; exact absurd z (by decide))).trans c2467
                    have c2482 : I2477 a0 13 = v2422 := (f2479 _ _ (fun q => by have z := ta0; rw [q.1, ta70] at z; exact absurd z (by decide))).trans c2468
                    have c2483 : I2477 a0 9 = v2424 := (f2479 _ _ (fun q => by have z := ta0; rw [q.1, ta70] at z; exact absurd z (by decide))).trans c2469
                    have c2484 : I2477 a0 10 = v2427 := (f2479 _ _ (fun q => by have z := ta0; rw [q.1, ta70] at z; exact absurd z (by decide))).trans c2470
                    have c2485 : I2477 a0 11 = v2430 := (f2479 _ _ (fun q => by have z := ta0; rw [q.1, ta70] at z; exact absurd z (by decide))).trans c2471
                    have c2486 : I2477 a0 12 = v2434 := (f2479 _ _ (fun q => by have z := ta0; rw [q.1, ta70] at z; exact absurd z (by decide))).trans c2472
                    have c2487 : I2477 a0 8 = v2436 := (f2479 _ _ (fun q => by have z := ta0; rw [q.1, ta70] at z; exact absurd z (by decide))).trans c2473
                    have c2488 : I2477 a66 v37.toNatClampNeg = x1 := (f2479 _ _ (fun q => by have z := ta66; rw [q.1, ta70] at z; exact absurd z (by decide))).trans c2474
                    have c2489 : I2477 a68 v37.toNatClampNeg = v2258 := (f2479 _ _ (fun q => by have z := ta68; rw [q.1, ta70] at z; exact absurd z (by decide))).trans e2465
                    have hO2490 : FrO 14 a1 T I0 I2477 := hO2475.put f2479 ta70 (Or.inl (by decide))
                    have hM2491 : NmM I2477 R0 L2376 a1 gQ := NmM.kp1 hM2476 f2479 ta70 rfl rfl hS2464.1 ta1
                    refine tr_aload_n dX12_readEvent_139 rfl ?_
                    refine tr_getR dX12_readEvent_140 fl12_188 (kR15 hS2478.1 ta0) d2 ?_
                    refine tr_getR dX12_readEvent_143 fl12_283 (kR14 hS2478.1 ta1) d73 ?_
                    refine tr_iload dX12_readEvent_146 rfl ?_
                    refine tr_iload dX12_readEvent_148 rfl ?_
                    refine q_iast dX12_readEvent_150 (kR57 hS2478.1 ta72) (ti_in (nR57 hS2478.1 ta72) (by omega) (by omega)) hS2478 ta72 (by show (0 : Int) ≤ v2379.toInt ∧ v2379.toInt ≤ (240 : Int); omega) rfl (by rfl) ?_
                    intro I2492 hS2493 e2495 f2494
                    have c2496 : I2492 a1 2 = v37 := (f2494 _ _ (fun q => by have z := ta1; rw [q.1, ta72] at z; exact absurd z (by decide))).trans c2481
                    have c2497 : I2492 a0 13 = v2422 := (f2494 _ _ (fun q => by have z := ta0; rw [q.1, ta72] at z; exact absurd z (by decide))).trans c2482
                    have c2498 : I2492 a0 9 = v2424 := (f2494 _ _ (fun q => by have z := ta0; rw [q.1, ta72] at z; exact absurd z (by decide))).trans c2483
                    have c2499 : I2492 a0 10 = v2427 := (f2494 _ _ (fun q => by have z := ta0; rw [q.1, ta72] at z; exact absurd z (by decide))).trans c2484
                    have c2500 : I2492 a0 11 = v2430 := (f2494 _ _ (fun q => by have z := ta0; rw [q.1, ta72] at z; exact absurd z (by decide))).trans c2485
                    have c2501 : I2492 a0 12 = v2434 := (f2494 _ _ (fun q => by have z := ta0; rw [q.1, ta72] at z; exact absurd z (by decide))).trans c2486
                    have c2502 : I2492 a0 8 = v2436 := (f2494 _ _ (fun q => by have z := ta0; rw [q.1, ta72] at z; exact absurd z (by decide))).trans c2487
                    have c2503 : I2492 a66 v37.toNatClampNeg = x1 := (f2494 _ _ (fun q => by have z := ta66; rw [q.1, ta72] at z; exact absurd z (by decide))).trans c2488
                    have c2504 : I2492 a68 v37.toNatClampNeg = v2258 := (f2494 _ _ (fun q => by have z := ta68; rw [q.1, ta72] at z; exact absurd z (by decide))).trans c2489
                    have hO2505 : FrO 14 a1 T I0 I2492 := hO2490.put f2494 ta72 (Or.inl (by decide))
                    have hM2506 : NmM I2492 R0 L2376 a1 gQ := NmM.kp1 hM2491 f2494 ta72 rfl rfl hS2478.1 ta1
                    refine tr_aload_n dX12_readEvent_151 rfl ?_
                    refine tr_getR dX12_readEvent_152 fl12_188 (kR15 hS2493.1 ta0) d2 ?_
                    refine tr_dup dX12_readEvent_155 rfl ?_
                    refine q_getI dX12_readEvent_156 fl12_265 (kR14 hS2493.1 ta1) c2496 ?_
                    refine q_iconst dX12_readEvent_159 (by decide) ?_
                    intro v2507 h2508
                    refine q_iaddE dX12_readEvent_160 (by intros; omega) ?_
                    intro v2509 h2510
                    refine q_putX dX12_readEvent_161 fl12_265 (kR14 hS2493.1 ta1) (Or.inl rfl) hS2493 ta1 (by decide +kernel) (hS2493.1.putE (i := v37.toNatClampNeg) ta1 d67 d69 (by rw [c2496]; exact (ti_nat (by omega)).symm) (by rw [c2496]; omega) (by omega) (by rw [c2503, c2504]; omega)) ?_
                    intro I2511 hS2512 e2513 f2514
                    have c2515 : I2511 a0 13 = v2422 := (f2514 _ _ (fun q => absurd q.2 (by decide))).trans c2497
                    have c2516 : I2511 a0 9 = v2424 := (f2514 _ _ (fun q => absurd q.2 (by decide))).trans c2498
                    have c2517 : I2511 a0 10 = v2427 := (f2514 _ _ (fun q => absurd q.2 (by decide))).trans c2499
                    have c2518 : I2511 a0 11 = v2430 := (f2514 _ _ (fun q => absurd q.2 (by decide))).trans c2500
                    have c2519 : I2511 a0 12 = v2434 := (f2514 _ _ (fun q => absurd q.2 (by decide))).trans c2501
                    have c2520 : I2511 a0 8 = v2436 := (f2514 _ _ (fun q => absurd q.2 (by decide))).trans c2502
                    have c2521 : I2511 a66 v37.toNatClampNeg = x1 := (f2514 _ _ (fun q => by have z := ta66; rw [q.1, ta1] at z; exact absurd z (by decide))).trans c2503
                    have c2522 : I2511 a68 v37.toNatClampNeg = v2258 := (f2514 _ _ (fun q => by have z := ta68; rw [q.1, ta1] at z; exact absurd z (by decide))).trans c2504
                    have hO2523 : FrO 14 a1 T I0 I2511 := hO2505.put f2514 ta1 (Or.inr rfl)
                    have hM2524 : NmM I2511 R0 L2376 a1 gQ := NmM.kp1 hM2506 f2514 ta1 rfl rfl hS2493.1 ta1
                    have eF := hF.eq
                    have eP := hP.eq
                    have es2525 := evS_c2 (B := gB) (Q := gQ) (k := srt gB gs) (s := (tkN gB gs)) (by omega)
                    obtain ⟨v2526, c2527⟩ : ∃ v, I2511 a0 14 = v := ⟨_, rfl⟩
                    exact tr_vret hZ dX12_readEvent_164 rfl (by decide) (by decide) ⟨rfl, rfl, rfl, rfl, rfl, hS2512, (fun b hb => (Option.some.inj (d2.symm.trans hb)) ▸ ((((((((((FrM.rf (R := R0) (b := a1) (T := T)).st g2181 (by decide +kernel)).st g2256 (by decide +kernel)).st g2316 (by decide +kernel)).st g2377 (by decide +kernel)).pu f2449 (by decide) (by decide) d67).pu f2466 (by decide) (by decide) d69).pu f2479 (by decide) (by decide) d71).pu f2494 (by decide) (by decide) d73).put f2514 ta1 (by decide))), (fun dr hd => (Option.some.inj (d2.symm.trans hd)) ▸ hO2523), (Or.inl ⟨(by (try rw [w2231]); (try rw [es2525]); first | done | with_reducible assumption | omega), (fun q0 z0 => by obtain rfl := Option.some.inj ((d2).symm.trans z0); (try rw [w2231]); (try rw [es2525]); (try rw [((hS2512.cell ta1 (by decide +kernel)).trans c30)]); first | done | with_reducible assumption | omega), (fun q0 z0 => by obtain rfl := Option.some.inj ((d2).symm.trans z0); (try rw [w2231]); (try rw [es2525]); (try rw [((hS2512.cell ta1 (by decide +kernel)).trans c34)]); first | done | with_reducible assumption | omega), (fun q0 z0 => by obtain rfl := Option.some.inj ((d2).symm.trans z0); (try rw [w2231]); (try rw [es2525]); (try rw [e2513]); first | done | with_reducible assumption | omega), (fun q0 z0 => by obtain rfl := Option.some.inj ((d2).symm.trans z0); (try rw [w2231]); (try rw [es2525]); (try rw [((hS2512.cell ta1 (by decide +kernel)).trans c42)]); first | done | with_reducible assumption | omega), (fun q0 z0 => by obtain rfl := Option.some.inj ((d2).symm.trans z0); (try rw [w2231]); (try rw [es2525]); (try rw [((hS2512.cell ta1 (by decide +kernel)).trans c46)]); first | done | with_reducible assumption | omega), (fun q0 z0 => by obtain rfl := Option.some.inj ((d2).symm.trans z0); (try rw [w2231]); (try rw [es2525]); (try rw [((hS2512.cell ta1 (by decide +kernel)).trans c50)]); first | done | with_reducible assumption | omega), (fun q0 z0 => by obtain rfl := Option.some.inj ((d2).symm.trans z0); (try rw [w2231]); (try rw [es2525]); (try rw [((hS2512.cell ta1 (by decide +kernel)).trans c54)]); first | done | with_reducible assumption | omega), (fun q0 z0 => by obtain rfl := Option.some.inj ((d2).symm.trans z0); (try rw [w2231]); (try rw [es2525]); (try rw [((hS2512.cell ta1 (by decide +kernel)).trans c58)]); first | done | with_reducible assumption | omega), (by (try rw [w2231]); (try rw [es2525]); (try rw [c2515]); (try rw [c65]); first | done | with_reducible assumption | omega), (by (try rw [w2231]); (try rw [es2525]); (try rw [c2516]); first | done | with_reducible assumption | omega), (by (try rw [w2231]); (try rw [es2525]); (try rw [c2516]); first | done | with_reducible assumption | omega), (by (try rw [w2231]); (try rw [es2525]); (try rw [c2517]); first | done | with_reducible assumption | omega), (by (try rw [w2231]); (try rw [es2525]); (try rw [c2518]); first | done | with_reducible assumption | omega), (by (try rw [w2231]); (try rw [es2525]); (try rw [c2433]); first | done | assumption), (by (try rw [w2231]); (try rw [es2525]); (try rw [c2519]); first | done | assumption), (by (try rw [w2231]); (try rw [es2525]); (try rw [c2520]); first | done | assumption), hL2420, (fun b hb => (Option.some.inj (d2.symm.trans hb)) ▸ NmM.ln (NmM.bd (k := srt gB gs) hM2524 (by omega) (by omega)) rfl), (fun E b hb hE => by obtain rfl := Option.some.inj (d2.symm.trans hb); exact AlM.ev hE hW0 ta1 (by omega) (by omega) (by omega) (by omega) (hS2512.cell ta1 (by decide +kernel)) (RoF.st (ex := xr 54 57) hS2512 (by decide +kernel)) (fun f hf => match f, hf with | 0, _ => (fun a ha => by obtain rfl := Option.some.inj (d67.symm.trans ha); have zi : v37.toNatClampNeg = (gQ 2).toNat := congrArg Int.toNat (by omega); have ze := (Eq.trans ((f2514 _ _ (fun q => by have z := ta66; rw [q.1, ta1] at z; exact absurd z (by decide))).trans ((f2494 _ _ (fun q => by have z := ta66; rw [q.1, ta72] at z; exact absurd z (by decide))).trans ((f2479 _ _ (fun q => by have z := ta66; rw [q.1, ta70] at z; exact absurd z (by decide))).trans (f2466 _ _ (fun q => by have z := ta66; rw [q.1, ta68] at z; exact absurd z (by decide)))))) e2448); rw [zi] at ze; exact ⟨by rw [ze]; simp only [evD, ↓reduceIte]; repeat' (first | split | omega), fun j hj => ((f2514 _ _ (fun q => by have z := ta66; rw [q.1, ta1] at z; exact absurd z (by decide))).trans ((f2494 _ _ (fun q => by have z := ta66; rw [q.1, ta72] at z; exact absurd z (by decide))).trans ((f2479 _ _ (fun q => by have z := ta66; rw [q.1, ta70] at z; exact absurd z (by decide))).trans ((f2466 _ _ (fun q => by have z := ta66; rw [q.1, ta68] at z; exact absurd z (by decide))).trans ((f2449 _ _ (fun q => hj (q.2.trans zi))).trans ((g2377.cell ta66 (wm_no (by decide +kernel))).trans ((g2316.cell ta66 (wm_no (by decide +kernel))).trans ((g2256.cell ta66 (wm_no (by decide +kernel))).trans (g2181.cell ta66 (wm_no (by decide +kernel)))))))))))⟩) | 1, _ => (fun a ha => by obtain rfl := Option.some.inj (d69.symm.trans ha); have zi : v37.toNatClampNeg = (gQ 2).toNat := congrArg Int.toNat (by omega); have ze := (Eq.trans ((f2514 _ _ (fun q => by have z := ta68; rw [q.1, ta1] at z; exact absurd z (by decide))).trans ((f2494 _ _ (fun q => by have z := ta68; rw [q.1, ta72] at z; exact absurd z (by decide))).trans (f2479 _ _ (fun q => by have z := ta68; rw [q.1, ta70] at z; exact absurd z (by decide))))) e2465); rw [zi] at ze; exact ⟨by rw [ze]; simp only [evD, ↓reduceIte]; repeat' (first | split | omega), fun j hj => ((f2514 _ _ (fun q => by have z := ta68; rw [q.1, ta1] at z; exact absurd z (by decide))).trans ((f2494 _ _ (fun q => by have z := ta68; rw [q.1, ta72] at z; exact absurd z (by decide))).trans ((f2479 _ _ (fun q => by have z := ta68; rw [q.1, ta70] at z; exact absurd z (by decide))).trans ((f2466 _ _ (fun q => hj (q.2.trans zi))).trans ((f2449 _ _ (fun q => by have z := ta68; rw [q.1, ta66] at z; exact absurd z (by decide))).trans ((g2377.cell ta68 (wm_no (by decide +kernel))).trans ((g2316.cell ta68 (wm_no (by decide +kernel))).trans ((g2256.cell ta68 (wm_no (by decide +kernel))).trans (g2181.cell ta68 (wm_no (by decide +kernel)))))))))))⟩) | 2, _ => (fun a ha => by obtain rfl := Option.some.inj (d71.symm.trans ha); have zi : v37.toNatClampNeg = (gQ 2).toNat := congrArg Int.toNat (by omega); have ze := (Eq.trans ((f2514 _ _ (fun q => by have z := ta70; rw [q.1, ta1] at z; exact absurd z (by decide))).trans (f2494 _ _ (fun q => by have z := ta70; rw [q.1, ta72] at z; exact absurd z (by decide)))) e2480); rw [zi] at ze; exact ⟨by rw [ze]; simp only [evD, ↓reduceIte]; repeat' (first | split | omega), fun j hj => ((f2514 _ _ (fun q => by have z := ta70; rw [q.1, ta1] at z; exact absurd z (by decide))).trans ((f2494 _ _ (fun q => by have z := ta70; rw [q.1, ta72] at z; exact absurd z (by decide))).trans ((f2479 _ _ (fun q => hj (q.2.trans zi))).trans ((f2466 _ _ (fun q => by have z := ta70; rw [q.1, ta68] at z; exact absurd z (by decide))).trans ((f2449 _ _ (fun q => by have z := ta70; rw [q.1, ta66] at z; exact absurd z (by decide))).trans ((g2377.cell ta70 (wm_no (by decide +kernel))).trans ((g2316.cell ta70 (wm_no (by decide +kernel))).trans ((g2256.cell ta70 (wm_no (by decide +kernel))).trans (g2181.cell ta70 (wm_no (by decide +kernel)))))))))))⟩) | 3, _ => (fun a ha => by obtain rfl := Option.some.inj (d73.symm.trans ha); have zi : v37.toNatClampNeg = (gQ 2).toNat := congrArg Int.toNat (by omega); have ze := (Eq.trans (f2514 _ _ (fun q => by have z := ta72; rw [q.1, ta1] at z; exact absurd z (by decide))) e2495); rw [zi] at ze; exact ⟨by rw [ze]; simp only [evD, ↓reduceIte]; repeat' (first | split | omega), fun j hj => ((f2514 _ _ (fun q => by have z := ta72; rw [q.1, ta1] at z; exact absurd z (by decide))).trans ((f2494 _ _ (fun q => hj (q.2.trans zi))).trans ((f2479 _ _ (fun q => by have z := ta72; rw [q.1, ta70] at z; exact absurd z (by decide))).trans ((f2466 _ _ (fun q => by have z := ta72; rw [q.1, ta68] at z; exact absurd z (by decide))).trans ((f2449 _ _ (fun q => by have z := ta72; rw [q.1, ta66] at z; exact absurd z (by decide))).trans ((g2377.cell ta72 (wm_no (by decide +kernel))).trans ((g2316.cell ta72 (wm_no (by decide +kernel))).trans ((g2256.cell ta72 (wm_no (by decide +kernel))).trans (g2181.cell ta72 (wm_no (by decide +kernel)))))))))))⟩) | f + 4, h => absurd h (by omega))), trivial⟩), trivial⟩
                  · skip
                    exfalso; omega
                · skip
                  obtain ⟨v2528, c2529⟩ : ∃ v, I2374 a0 9 = v := ⟨_, rfl⟩
                  have b2530 := iv15_9 hS2382.1 ta0 c2529
                  rw [c2529] at p2402
                  obtain ⟨v2531, c2532⟩ : ∃ v, I2374 a0 13 = v := ⟨_, rfl⟩
                  rw [c2532] at p2403
                  obtain ⟨v2533, c2534⟩ : ∃ v, I2374 a0 14 = v := ⟨_, rfl⟩
                  rw [c2534] at p2404
                  replace hF := hF.pos (by omega)
                  replace hP := hP.pos (by omega)
                  refine tr_istore dX12_readEvent_86 (by decide) (by decide) ?_
                  refine tr_aload_n dX12_readEvent_88 rfl ?_
                  refine q_getI dX12_readEvent_89 fl12_99 (kR15 hS2382.1 ta0) c2529 ?_
                  refine q_iconst dX12_readEvent_92 (by decide) ?_
                  intro v2535 h2536
                  refine q_icmp_ne 97 dX12_readEvent_93 (by decide) (fun h2537 => ?_) (fun h2537 => ?_)
                  · skip
                    exfalso; omega
                  · skip
                    have eF := hF.eq
                    have eP := hP.eq
                    obtain ⟨v2538, c2539⟩ : ∃ v, I2374 a0 10 = v := ⟨_, rfl⟩
                    have b2540 := iv15_10 hS2382.1 ta0 c2539
                    obtain ⟨v2541, c2542⟩ : ∃ v, I2374 a0 11 = v := ⟨_, rfl⟩
                    obtain ⟨y2543, c2544⟩ : ∃ v, L2376 a0 15 = v := ⟨_, rfl⟩
                    obtain ⟨v2545, c2546⟩ : ∃ v, I2374 a0 12 = v := ⟨_, rfl⟩
                    obtain ⟨v2547, c2548⟩ : ∃ v, I2374 a0 8 = v := ⟨_, rfl⟩
                    have b2549 := iv15_8 hS2382.1 ta0 c2548
                    exact tr_vret hZ dX12_readEvent_96 rfl (by decide) (by decide) ⟨rfl, rfl, rfl, rfl, rfl, hS2382, (fun b hb => (Option.some.inj (d2.symm.trans hb)) ▸ (((((FrM.rf (R := R0) (b := a1) (T := T)).st g2181 (by decide +kernel)).st g2256 (by decide +kernel)).st g2316 (by decide +kernel)).st g2377 (by decide +kernel))), (fun dr hd => (Option.some.inj (d2.symm.trans hd)) ▸ hO2384), (Or.inr (⟨(by (try rw [w2231]); first | done | with_reducible assumption | omega), (by (try rw [w2231]); (try rw [c2529]); first | done | with_reducible assumption | omega), (by (try rw [w2231]); (try rw [c2532]); first | done | with_reducible assumption | omega), (by (try rw [w2231]); (try rw [c2534]); first | done | with_reducible assumption | omega), trivial⟩)), trivial⟩
                · skip
                  obtain ⟨v2550, c2551⟩ : ∃ v, I2374 a0 9 = v := ⟨_, rfl⟩
                  have b2552 := iv15_9 hS2382.1 ta0 c2551
                  rw [c2551] at p2409
                  obtain ⟨v2553, c2554⟩ : ∃ v, I2374 a0 13 = v := ⟨_, rfl⟩
                  rw [c2554] at p2410
                  obtain ⟨v2555, c2556⟩ : ∃ v, I2374 a0 14 = v := ⟨_, rfl⟩
                  rw [c2556] at p2411
                  replace hF := hF.neg (by omega)
                  replace hP := hP.neg (by omega)
                  replace hF := hF.pos (by omega)
                  replace hP := hP.pos (by omega)
                  refine tr_istore dX12_readEvent_86 (by decide) (by decide) ?_
                  refine tr_aload_n dX12_readEvent_88 rfl ?_
                  refine q_getI dX12_readEvent_89 fl12_99 (kR15 hS2382.1 ta0) c2551 ?_
                  refine q_iconst dX12_readEvent_92 (by decide) ?_
                  intro v2557 h2558
                  refine q_icmp_ne 97 dX12_readEvent_93 (by decide) (fun h2559 => ?_) (fun h2559 => ?_)
                  · skip
                    exfalso; omega
                  · skip
                    have eF := hF.eq
                    have eP := hP.eq
                    obtain ⟨v2560, c2561⟩ : ∃ v, I2374 a0 10 = v := ⟨_, rfl⟩
                    have b2562 := iv15_10 hS2382.1 ta0 c2561
                    obtain ⟨v2563, c2564⟩ : ∃ v, I2374 a0 11 = v := ⟨_, rfl⟩
                    obtain ⟨y2565, c2566⟩ : ∃ v, L2376 a0 15 = v := ⟨_, rfl⟩
                    obtain ⟨v2567, c2568⟩ : ∃ v, I2374 a0 12 = v := ⟨_, rfl⟩
                    obtain ⟨v2569, c2570⟩ : ∃ v, I2374 a0 8 = v := ⟨_, rfl⟩
                    have b2571 := iv15_8 hS2382.1 ta0 c2570
                    exact tr_vret hZ dX12_readEvent_96 rfl (by decide) (by decide) ⟨rfl, rfl, rfl, rfl, rfl, hS2382, (fun b hb => (Option.some.inj (d2.symm.trans hb)) ▸ (((((FrM.rf (R := R0) (b := a1) (T := T)).st g2181 (by decide +kernel)).st g2256 (by decide +kernel)).st g2316 (by decide +kernel)).st g2377 (by decide +kernel))), (fun dr hd => (Option.some.inj (d2.symm.trans hd)) ▸ hO2384), (Or.inr (⟨(by (try rw [w2231]); first | done | with_reducible assumption | omega), (by (try rw [w2231]); (try rw [c2551]); first | done | with_reducible assumption | omega), (by (try rw [w2231]); (try rw [c2554]); first | done | with_reducible assumption | omega), (by (try rw [w2231]); (try rw [c2556]); first | done | with_reducible assumption | omega), trivial⟩)), trivial⟩
                · skip
                  obtain ⟨v2572, c2573⟩ : ∃ v, I2374 a0 9 = v := ⟨_, rfl⟩
                  have b2574 := iv15_9 hS2382.1 ta0 c2573
                  rw [c2573] at p2417
                  obtain ⟨v2575, c2576⟩ : ∃ v, I2374 a0 13 = v := ⟨_, rfl⟩
                  rw [c2576] at p2418
                  obtain ⟨v2577, c2578⟩ : ∃ v, I2374 a0 14 = v := ⟨_, rfl⟩
                  rw [c2578] at p2419
                  replace hF := hF.neg (by omega)
                  replace hP := hP.neg (by omega)
                  replace hF := hF.neg (by omega)
                  replace hP := hP.neg (by omega)
                  replace hF := hF.pos (by omega)
                  replace hP := hP.pos (by omega)
                  refine tr_istore dX12_readEvent_86 (by decide) (by decide) ?_
                  refine tr_aload_n dX12_readEvent_88 rfl ?_
                  refine q_getI dX12_readEvent_89 fl12_99 (kR15 hS2382.1 ta0) c2573 ?_
                  refine q_iconst dX12_readEvent_92 (by decide) ?_
                  intro v2579 h2580
                  refine q_icmp_ne 97 dX12_readEvent_93 (by decide) (fun h2581 => ?_) (fun h2581 => ?_)
                  · skip
                    exfalso; omega
                  · skip
                    have eF := hF.eq
                    have eP := hP.eq
                    obtain ⟨v2582, c2583⟩ : ∃ v, I2374 a0 10 = v := ⟨_, rfl⟩
                    have b2584 := iv15_10 hS2382.1 ta0 c2583
                    obtain ⟨v2585, c2586⟩ : ∃ v, I2374 a0 11 = v := ⟨_, rfl⟩
                    obtain ⟨y2587, c2588⟩ : ∃ v, L2376 a0 15 = v := ⟨_, rfl⟩
                    obtain ⟨v2589, c2590⟩ : ∃ v, I2374 a0 12 = v := ⟨_, rfl⟩
                    obtain ⟨v2591, c2592⟩ : ∃ v, I2374 a0 8 = v := ⟨_, rfl⟩
                    have b2593 := iv15_8 hS2382.1 ta0 c2592
                    exact tr_vret hZ dX12_readEvent_96 rfl (by decide) (by decide) ⟨rfl, rfl, rfl, rfl, rfl, hS2382, (fun b hb => (Option.some.inj (d2.symm.trans hb)) ▸ (((((FrM.rf (R := R0) (b := a1) (T := T)).st g2181 (by decide +kernel)).st g2256 (by decide +kernel)).st g2316 (by decide +kernel)).st g2377 (by decide +kernel))), (fun dr hd => (Option.some.inj (d2.symm.trans hd)) ▸ hO2384), (Or.inr (⟨(by (try rw [w2231]); first | done | with_reducible assumption | omega), (by (try rw [w2231]); (try rw [c2573]); first | done | with_reducible assumption | omega), (by (try rw [w2231]); (try rw [c2576]); first | done | with_reducible assumption | omega), (by (try rw [w2231]); (try rw [c2578]); first | done | with_reducible assumption | omega), trivial⟩)), trivial⟩
              · skip
                exfalso; omega
            · skip
              obtain ⟨v2594, c2595⟩ : ∃ v, I2313 a0 9 = v := ⟨_, rfl⟩
              have b2596 := iv15_9 hS2321.1 ta0 c2595
              rw [c2595] at p2339
              obtain ⟨v2597, c2598⟩ : ∃ v, I2313 a0 13 = v := ⟨_, rfl⟩
              rw [c2598] at p2340
              obtain ⟨v2599, c2600⟩ : ∃ v, I2313 a0 14 = v := ⟨_, rfl⟩
              rw [c2600] at p2341
              replace hF := hF.pos (by omega)
              replace hP := hP.pos (by omega)
              refine tr_istore_n dX12_readEvent_57 (by decide) (by decide) ?_
              refine tr_iload_n dX12_readEvent_58 rfl ?_
              refine q_iconst dX12_readEvent_59 (by decide) ?_
              intro v2601 h2602
              refine q_icmp_ne 69 dX12_readEvent_60 (by decide) (fun h2603 => ?_) (fun h2603 => ?_)
              · skip
                refine tr_aload_n dX12_readEvent_69 rfl ?_
                refine tr_ldcwS dX12_readEvent_70 ld12_272 ?_
                refine tr_iload_n dX12_readEvent_73 rfl ?_
                refine q_iconst dX12_readEvent_74 (by decide) ?_
                intro v2604 h2605
                refine q_iaddE dX12_readEvent_75 (by intros; omega) ?_
                intro v2606 h2607
                refine tr_aload_n dX12_readEvent_76 rfl ?_
                refine tr_getR dX12_readEvent_77 fl12_188 (kR15 hS2321.1 ta0) d2 ?_
                refine q_getI dX12_readEvent_80 fl12_192 (kR14 hS2321.1 ta1) ((hS2321.cell ta1 (by decide +kernel)).trans c30) ?_
                refine q_callVi hE (M' := mX12_readPart) (as := [_, _, _]) dX12_readEvent_83 lk12_249 inX12_readPart seX12_readPart myX12_readPart (by decide) ⟨by decide, by decide⟩ rfl (kR15 hS2321.1 ta0) (Nat.le_of_ble_eq_true rfl) rfl rfl (by decide) (by decide) (k_X12_readPart hS2321.1 ta0 (by decide)) ?_
                rintro v2612 cn' K' N' I2608 R2609 L2610 ⟨rfl, rfl, rfl, rfl, g2611, p2613, w2614, -⟩
                have hS2615 := hS2321.tr g2611 (by decide +kernel) (by decide +kernel)
                have c2616 : I2608 a1 2 = v37 := (g2611.cell ta1 (by decide +kernel)).trans c2322
                have b2617 : 1 ≤ v2612.toInt ∧ v2612.toInt ≤ 240 := by omega
                clear p2613
                have hO2618 : FrO 14 a1 T I0 I2608 := hO2323.st g2611 (by decide +kernel)
                have ov2619 := w2614.over (by rw [c2595]; omega)
                obtain ⟨v2620, c2621⟩ : ∃ v, I2608 a0 9 = v := ⟨_, rfl⟩
                have b2622 := iv15_9 hS2615.1 ta0 c2621
                obtain ⟨v2623, c2624⟩ : ∃ v, I2608 a0 13 = v := ⟨_, rfl⟩
                obtain ⟨v2625, c2626⟩ : ∃ v, I2608 a0 14 = v := ⟨_, rfl⟩
                (try rw [c2621] at ov2619)
                (try rw [c2624] at ov2619)
                (try rw [c2626] at ov2619)
                (try rw [c2595] at ov2619)
                (try rw [c2598] at ov2619)
                (try rw [c2600] at ov2619)
                refine tr_istore dX12_readEvent_86 (by decide) (by decide) ?_
                refine tr_aload_n dX12_readEvent_88 rfl ?_
                refine q_getI dX12_readEvent_89 fl12_99 (kR15 hS2615.1 ta0) c2621 ?_
                refine q_iconst dX12_readEvent_92 (by decide) ?_
                intro v2627 h2628
                refine q_icmp_ne 97 dX12_readEvent_93 (by decide) (fun h2629 => ?_) (fun h2629 => ?_)
                · skip
                  exfalso; omega
                · skip
                  have eF := hF.eq
                  have eP := hP.eq
                  obtain ⟨v2630, c2631⟩ : ∃ v, I2608 a0 10 = v := ⟨_, rfl⟩
                  have b2632 := iv15_10 hS2615.1 ta0 c2631
                  obtain ⟨v2633, c2634⟩ : ∃ v, I2608 a0 11 = v := ⟨_, rfl⟩
                  obtain ⟨y2635, c2636⟩ : ∃ v, L2610 a0 15 = v := ⟨_, rfl⟩
                  obtain ⟨v2637, c2638⟩ : ∃ v, I2608 a0 12 = v := ⟨_, rfl⟩
                  obtain ⟨v2639, c2640⟩ : ∃ v, I2608 a0 8 = v := ⟨_, rfl⟩
                  have b2641 := iv15_8 hS2615.1 ta0 c2640
                  exact tr_vret hZ dX12_readEvent_96 rfl (by decide) (by decide) ⟨rfl, rfl, rfl, rfl, rfl, hS2615, (fun b hb => (Option.some.inj (d2.symm.trans hb)) ▸ (((((FrM.rf (R := R0) (b := a1) (T := T)).st g2181 (by decide +kernel)).st g2256 (by decide +kernel)).st g2316 (by decide +kernel)).st g2611 (by decide +kernel))), (fun dr hd => (Option.some.inj (d2.symm.trans hd)) ▸ hO2618), (Or.inr (⟨(by (try rw [w2231]); first | done | with_reducible assumption | omega), (by (try rw [w2231]); (try rw [c2621]); first | done | with_reducible assumption | omega), (by (try rw [w2231]); (try rw [c2624]); first | done | with_reducible assumption | omega), (by (try rw [w2231]); (try rw [c2626]); first | done | with_reducible assumption | omega), trivial⟩)), trivial⟩
              · skip
                exfalso; omega
            · skip
              obtain ⟨v2642, c2643⟩ : ∃ v, I2313 a0 9 = v := ⟨_, rfl⟩
              have b2644 := iv15_9 hS2321.1 ta0 c2643
              rw [c2643] at p2345
              obtain ⟨v2645, c2646⟩ : ∃ v, I2313 a0 13 = v := ⟨_, rfl⟩
              rw [c2646] at p2346
              obtain ⟨v2647, c2648⟩ : ∃ v, I2313 a0 14 = v := ⟨_, rfl⟩
              rw [c2648] at p2347
              replace hF := hF.neg (by omega)
              replace hP := hP.neg (by omega)
              replace hF := hF.pos (by omega)
              replace hP := hP.pos (by omega)
              refine tr_istore_n dX12_readEvent_57 (by decide) (by decide) ?_
              refine tr_iload_n dX12_readEvent_58 rfl ?_
              refine q_iconst dX12_readEvent_59 (by decide) ?_
              intro v2649 h2650
              refine q_icmp_ne 69 dX12_readEvent_60 (by decide) (fun h2651 => ?_) (fun h2651 => ?_)
              · skip
                refine tr_aload_n dX12_readEvent_69 rfl ?_
                refine tr_ldcwS dX12_readEvent_70 ld12_272 ?_
                refine tr_iload_n dX12_readEvent_73 rfl ?_
                refine q_iconst dX12_readEvent_74 (by decide) ?_
                intro v2652 h2653
                refine q_iaddE dX12_readEvent_75 (by intros; omega) ?_
                intro v2654 h2655
                refine tr_aload_n dX12_readEvent_76 rfl ?_
                refine tr_getR dX12_readEvent_77 fl12_188 (kR15 hS2321.1 ta0) d2 ?_
                refine q_getI dX12_readEvent_80 fl12_192 (kR14 hS2321.1 ta1) ((hS2321.cell ta1 (by decide +kernel)).trans c30) ?_
                refine q_callVi hE (M' := mX12_readPart) (as := [_, _, _]) dX12_readEvent_83 lk12_249 inX12_readPart seX12_readPart myX12_readPart (by decide) ⟨by decide, by decide⟩ rfl (kR15 hS2321.1 ta0) (Nat.le_of_ble_eq_true rfl) rfl rfl (by decide) (by decide) (k_X12_readPart hS2321.1 ta0 (by decide)) ?_
                rintro v2660 cn' K' N' I2656 R2657 L2658 ⟨rfl, rfl, rfl, rfl, g2659, p2661, w2662, -⟩
                have hS2663 := hS2321.tr g2659 (by decide +kernel) (by decide +kernel)
                have c2664 : I2656 a1 2 = v37 := (g2659.cell ta1 (by decide +kernel)).trans c2322
                have b2665 : 1 ≤ v2660.toInt ∧ v2660.toInt ≤ 240 := by omega
                clear p2661
                have hO2666 : FrO 14 a1 T I0 I2656 := hO2323.st g2659 (by decide +kernel)
                have ov2667 := w2662.over (by rw [c2643]; omega)
                obtain ⟨v2668, c2669⟩ : ∃ v, I2656 a0 9 = v := ⟨_, rfl⟩
                have b2670 := iv15_9 hS2663.1 ta0 c2669
                obtain ⟨v2671, c2672⟩ : ∃ v, I2656 a0 13 = v := ⟨_, rfl⟩
                obtain ⟨v2673, c2674⟩ : ∃ v, I2656 a0 14 = v := ⟨_, rfl⟩
                (try rw [c2669] at ov2667)
                (try rw [c2672] at ov2667)
                (try rw [c2674] at ov2667)
                (try rw [c2643] at ov2667)
                (try rw [c2646] at ov2667)
                (try rw [c2648] at ov2667)
                refine tr_istore dX12_readEvent_86 (by decide) (by decide) ?_
                refine tr_aload_n dX12_readEvent_88 rfl ?_
                refine q_getI dX12_readEvent_89 fl12_99 (kR15 hS2663.1 ta0) c2669 ?_
                refine q_iconst dX12_readEvent_92 (by decide) ?_
                intro v2675 h2676
                refine q_icmp_ne 97 dX12_readEvent_93 (by decide) (fun h2677 => ?_) (fun h2677 => ?_)
                · skip
                  exfalso; omega
                · skip
                  have eF := hF.eq
                  have eP := hP.eq
                  obtain ⟨v2678, c2679⟩ : ∃ v, I2656 a0 10 = v := ⟨_, rfl⟩
                  have b2680 := iv15_10 hS2663.1 ta0 c2679
                  obtain ⟨v2681, c2682⟩ : ∃ v, I2656 a0 11 = v := ⟨_, rfl⟩
                  obtain ⟨y2683, c2684⟩ : ∃ v, L2658 a0 15 = v := ⟨_, rfl⟩
                  obtain ⟨v2685, c2686⟩ : ∃ v, I2656 a0 12 = v := ⟨_, rfl⟩
                  obtain ⟨v2687, c2688⟩ : ∃ v, I2656 a0 8 = v := ⟨_, rfl⟩
                  have b2689 := iv15_8 hS2663.1 ta0 c2688
                  exact tr_vret hZ dX12_readEvent_96 rfl (by decide) (by decide) ⟨rfl, rfl, rfl, rfl, rfl, hS2663, (fun b hb => (Option.some.inj (d2.symm.trans hb)) ▸ (((((FrM.rf (R := R0) (b := a1) (T := T)).st g2181 (by decide +kernel)).st g2256 (by decide +kernel)).st g2316 (by decide +kernel)).st g2659 (by decide +kernel))), (fun dr hd => (Option.some.inj (d2.symm.trans hd)) ▸ hO2666), (Or.inr (⟨(by (try rw [w2231]); first | done | with_reducible assumption | omega), (by (try rw [w2231]); (try rw [c2669]); first | done | with_reducible assumption | omega), (by (try rw [w2231]); (try rw [c2672]); first | done | with_reducible assumption | omega), (by (try rw [w2231]); (try rw [c2674]); first | done | with_reducible assumption | omega), trivial⟩)), trivial⟩
              · skip
                exfalso; omega
          · skip
            obtain ⟨v2690, c2691⟩ : ∃ v, I2253 a0 9 = v := ⟨_, rfl⟩
            have b2692 := iv15_9 hS2261.1 ta0 c2691
            rw [c2691] at p2279
            obtain ⟨v2693, c2694⟩ : ∃ v, I2253 a0 13 = v := ⟨_, rfl⟩
            rw [c2694] at p2280
            obtain ⟨v2695, c2696⟩ : ∃ v, I2253 a0 14 = v := ⟨_, rfl⟩
            rw [c2696] at p2281
            replace hF := hF.pos (by omega)
            replace hP := hP.pos (by omega)
            refine tr_goto 42 dX12_readEvent_37 (by decide) ?_
            refine tr_istore_n dX12_readEvent_42 (by decide) (by decide) ?_
            refine tr_aload_n dX12_readEvent_43 rfl ?_
            refine q_iconst dX12_readEvent_44 (by decide) ?_
            intro v2697 h2698
            refine tr_aload_n dX12_readEvent_45 rfl ?_
            refine tr_getR dX12_readEvent_46 fl12_188 (kR15 hS2261.1 ta0) d2 ?_
            refine q_getI dX12_readEvent_49 fl12_192 (kR14 hS2261.1 ta1) ((hS2261.cell ta1 (by decide +kernel)).trans c30) ?_
            refine q_iconst dX12_readEvent_52 (by decide) ?_
            intro v2699 h2700
            refine q_isubE dX12_readEvent_53 (by intros; omega) ?_
            intro v2701 h2702
            refine q_callVi hE (M' := mX12_readWhole) (as := [_, _]) dX12_readEvent_54 lk12_161 inX12_readWhole seX12_readWhole myX12_readWhole (by decide) ⟨by decide, by decide⟩ rfl (kR15 hS2261.1 ta0) (Nat.le_of_ble_eq_true rfl) rfl rfl (by decide) (by decide) (k_X12_readWhole hS2261.1 ta0) ?_
            rintro v2707 cn' K' N' I2703 R2704 L2705 ⟨rfl, rfl, rfl, rfl, g2706, p2708, w2709, -⟩
            have hS2710 := hS2261.tr g2706 (by decide +kernel) (by decide +kernel)
            have c2711 : I2703 a1 2 = v37 := (g2706.cell ta1 (by decide +kernel)).trans c2262
            have b2712 : 0 ≤ v2707.toInt ∧ v2707.toInt ≤ 239 := by omega
            clear p2708
            have hO2713 : FrO 14 a1 T I0 I2703 := hO2263.st g2706 (by decide +kernel)
            have ov2714 := w2709.over (by rw [c2691]; omega)
            obtain ⟨v2715, c2716⟩ : ∃ v, I2703 a0 9 = v := ⟨_, rfl⟩
            have b2717 := iv15_9 hS2710.1 ta0 c2716
            obtain ⟨v2718, c2719⟩ : ∃ v, I2703 a0 13 = v := ⟨_, rfl⟩
            obtain ⟨v2720, c2721⟩ : ∃ v, I2703 a0 14 = v := ⟨_, rfl⟩
            (try rw [c2716] at ov2714)
            (try rw [c2719] at ov2714)
            (try rw [c2721] at ov2714)
            (try rw [c2691] at ov2714)
            (try rw [c2694] at ov2714)
            (try rw [c2696] at ov2714)
            refine tr_istore_n dX12_readEvent_57 (by decide) (by decide) ?_
            refine tr_iload_n dX12_readEvent_58 rfl ?_
            refine q_iconst dX12_readEvent_59 (by decide) ?_
            intro v2722 h2723
            refine q_icmp_ne 69 dX12_readEvent_60 (by decide) (fun h2724 => ?_) (fun h2724 => ?_)
            · skip
              refine tr_aload_n dX12_readEvent_69 rfl ?_
              refine tr_ldcwS dX12_readEvent_70 ld12_272 ?_
              refine tr_iload_n dX12_readEvent_73 rfl ?_
              refine q_iconst dX12_readEvent_74 (by decide) ?_
              intro v2725 h2726
              refine q_iaddE dX12_readEvent_75 (by intros; omega) ?_
              intro v2727 h2728
              refine tr_aload_n dX12_readEvent_76 rfl ?_
              refine tr_getR dX12_readEvent_77 fl12_188 (kR15 hS2710.1 ta0) d2 ?_
              refine q_getI dX12_readEvent_80 fl12_192 (kR14 hS2710.1 ta1) ((hS2710.cell ta1 (by decide +kernel)).trans c30) ?_
              refine q_callVi hE (M' := mX12_readPart) (as := [_, _, _]) dX12_readEvent_83 lk12_249 inX12_readPart seX12_readPart myX12_readPart (by decide) ⟨by decide, by decide⟩ rfl (kR15 hS2710.1 ta0) (Nat.le_of_ble_eq_true rfl) rfl rfl (by decide) (by decide) (k_X12_readPart hS2710.1 ta0 (by decide)) ?_
              rintro v2733 cn' K' N' I2729 R2730 L2731 ⟨rfl, rfl, rfl, rfl, g2732, p2734, w2735, -⟩
              have hS2736 := hS2710.tr g2732 (by decide +kernel) (by decide +kernel)
              have c2737 : I2729 a1 2 = v37 := (g2732.cell ta1 (by decide +kernel)).trans c2711
              have b2738 : 1 ≤ v2733.toInt ∧ v2733.toInt ≤ 240 := by omega
              clear p2734
              have hO2739 : FrO 14 a1 T I0 I2729 := hO2713.st g2732 (by decide +kernel)
              have ov2740 := w2735.over (by rw [c2716]; omega)
              obtain ⟨v2741, c2742⟩ : ∃ v, I2729 a0 9 = v := ⟨_, rfl⟩
              have b2743 := iv15_9 hS2736.1 ta0 c2742
              obtain ⟨v2744, c2745⟩ : ∃ v, I2729 a0 13 = v := ⟨_, rfl⟩
              obtain ⟨v2746, c2747⟩ : ∃ v, I2729 a0 14 = v := ⟨_, rfl⟩
              (try rw [c2742] at ov2740)
              (try rw [c2745] at ov2740)
              (try rw [c2747] at ov2740)
              (try rw [c2716] at ov2740)
              (try rw [c2719] at ov2740)
              (try rw [c2721] at ov2740)
              refine tr_istore dX12_readEvent_86 (by decide) (by decide) ?_
              refine tr_aload_n dX12_readEvent_88 rfl ?_
              refine q_getI dX12_readEvent_89 fl12_99 (kR15 hS2736.1 ta0) c2742 ?_
              refine q_iconst dX12_readEvent_92 (by decide) ?_
              intro v2748 h2749
              refine q_icmp_ne 97 dX12_readEvent_93 (by decide) (fun h2750 => ?_) (fun h2750 => ?_)
              · skip
                exfalso; omega
              · skip
                have eF := hF.eq
                have eP := hP.eq
                obtain ⟨v2751, c2752⟩ : ∃ v, I2729 a0 10 = v := ⟨_, rfl⟩
                have b2753 := iv15_10 hS2736.1 ta0 c2752
                obtain ⟨v2754, c2755⟩ : ∃ v, I2729 a0 11 = v := ⟨_, rfl⟩
                obtain ⟨y2756, c2757⟩ : ∃ v, L2731 a0 15 = v := ⟨_, rfl⟩
                obtain ⟨v2758, c2759⟩ : ∃ v, I2729 a0 12 = v := ⟨_, rfl⟩
                obtain ⟨v2760, c2761⟩ : ∃ v, I2729 a0 8 = v := ⟨_, rfl⟩
                have b2762 := iv15_8 hS2736.1 ta0 c2761
                exact tr_vret hZ dX12_readEvent_96 rfl (by decide) (by decide) ⟨rfl, rfl, rfl, rfl, rfl, hS2736, (fun b hb => (Option.some.inj (d2.symm.trans hb)) ▸ (((((FrM.rf (R := R0) (b := a1) (T := T)).st g2181 (by decide +kernel)).st g2256 (by decide +kernel)).st g2706 (by decide +kernel)).st g2732 (by decide +kernel))), (fun dr hd => (Option.some.inj (d2.symm.trans hd)) ▸ hO2739), (Or.inr (⟨(by (try rw [w2231]); first | done | with_reducible assumption | omega), (by (try rw [w2231]); (try rw [c2742]); first | done | with_reducible assumption | omega), (by (try rw [w2231]); (try rw [c2745]); first | done | with_reducible assumption | omega), (by (try rw [w2231]); (try rw [c2747]); first | done | with_reducible assumption | omega), trivial⟩)), trivial⟩
            · skip
              exfalso; omega
          · skip
            obtain ⟨v2763, c2764⟩ : ∃ v, I2253 a0 9 = v := ⟨_, rfl⟩
            have b2765 := iv15_9 hS2261.1 ta0 c2764
            rw [c2764] at p2285
            obtain ⟨v2766, c2767⟩ : ∃ v, I2253 a0 13 = v := ⟨_, rfl⟩
            rw [c2767] at p2286
            obtain ⟨v2768, c2769⟩ : ∃ v, I2253 a0 14 = v := ⟨_, rfl⟩
            rw [c2769] at p2287
            replace hF := hF.neg (by omega)
            replace hP := hP.neg (by omega)
            replace hF := hF.pos (by omega)
            replace hP := hP.pos (by omega)
            refine tr_goto 42 dX12_readEvent_37 (by decide) ?_
            refine tr_istore_n dX12_readEvent_42 (by decide) (by decide) ?_
            refine tr_aload_n dX12_readEvent_43 rfl ?_
            refine q_iconst dX12_readEvent_44 (by decide) ?_
            intro v2770 h2771
            refine tr_aload_n dX12_readEvent_45 rfl ?_
            refine tr_getR dX12_readEvent_46 fl12_188 (kR15 hS2261.1 ta0) d2 ?_
            refine q_getI dX12_readEvent_49 fl12_192 (kR14 hS2261.1 ta1) ((hS2261.cell ta1 (by decide +kernel)).trans c30) ?_
            refine q_iconst dX12_readEvent_52 (by decide) ?_
            intro v2772 h2773
            refine q_isubE dX12_readEvent_53 (by intros; omega) ?_
            intro v2774 h2775
            refine q_callVi hE (M' := mX12_readWhole) (as := [_, _]) dX12_readEvent_54 lk12_161 inX12_readWhole seX12_readWhole myX12_readWhole (by decide) ⟨by decide, by decide⟩ rfl (kR15 hS2261.1 ta0) (Nat.le_of_ble_eq_true rfl) rfl rfl (by decide) (by decide) (k_X12_readWhole hS2261.1 ta0) ?_
            rintro v2780 cn' K' N' I2776 R2777 L2778 ⟨rfl, rfl, rfl, rfl, g2779, p2781, w2782, -⟩
            have hS2783 := hS2261.tr g2779 (by decide +kernel) (by decide +kernel)
            have c2784 : I2776 a1 2 = v37 := (g2779.cell ta1 (by decide +kernel)).trans c2262
            have b2785 : 0 ≤ v2780.toInt ∧ v2780.toInt ≤ 239 := by omega
            clear p2781
            have hO2786 : FrO 14 a1 T I0 I2776 := hO2263.st g2779 (by decide +kernel)
            have ov2787 := w2782.over (by rw [c2764]; omega)
            obtain ⟨v2788, c2789⟩ : ∃ v, I2776 a0 9 = v := ⟨_, rfl⟩
            have b2790 := iv15_9 hS2783.1 ta0 c2789
            obtain ⟨v2791, c2792⟩ : ∃ v, I2776 a0 13 = v := ⟨_, rfl⟩
            obtain ⟨v2793, c2794⟩ : ∃ v, I2776 a0 14 = v := ⟨_, rfl⟩
            (try rw [c2789] at ov2787)
            (try rw [c2792] at ov2787)
            (try rw [c2794] at ov2787)
            (try rw [c2764] at ov2787)
            (try rw [c2767] at ov2787)
            (try rw [c2769] at ov2787)
            refine tr_istore_n dX12_readEvent_57 (by decide) (by decide) ?_
            refine tr_iload_n dX12_readEvent_58 rfl ?_
            refine q_iconst dX12_readEvent_59 (by decide) ?_
            intro v2795 h2796
            refine q_icmp_ne 69 dX12_readEvent_60 (by decide) (fun h2797 => ?_) (fun h2797 => ?_)
            · skip
              refine tr_aload_n dX12_readEvent_69 rfl ?_
              refine tr_ldcwS dX12_readEvent_70 ld12_272 ?_
              refine tr_iload_n dX12_readEvent_73 rfl ?_
              refine q_iconst dX12_readEvent_74 (by decide) ?_
              intro v2798 h2799
              refine q_iaddE dX12_readEvent_75 (by intros; omega) ?_
              intro v2800 h2801
              refine tr_aload_n dX12_readEvent_76 rfl ?_
              refine tr_getR dX12_readEvent_77 fl12_188 (kR15 hS2783.1 ta0) d2 ?_
              refine q_getI dX12_readEvent_80 fl12_192 (kR14 hS2783.1 ta1) ((hS2783.cell ta1 (by decide +kernel)).trans c30) ?_
              refine q_callVi hE (M' := mX12_readPart) (as := [_, _, _]) dX12_readEvent_83 lk12_249 inX12_readPart seX12_readPart myX12_readPart (by decide) ⟨by decide, by decide⟩ rfl (kR15 hS2783.1 ta0) (Nat.le_of_ble_eq_true rfl) rfl rfl (by decide) (by decide) (k_X12_readPart hS2783.1 ta0 (by decide)) ?_
              rintro v2806 cn' K' N' I2802 R2803 L2804 ⟨rfl, rfl, rfl, rfl, g2805, p2807, w2808, -⟩
              have hS2809 := hS2783.tr g2805 (by decide +kernel) (by decide +kernel)
              have c2810 : I2802 a1 2 = v37 := (g2805.cell ta1 (by decide +kernel)).trans c2784
              have b2811 : 1 ≤ v2806.toInt ∧ v2806.toInt ≤ 240 := by omega
              clear p2807
              have hO2812 : FrO 14 a1 T I0 I2802 := hO2786.st g2805 (by decide +kernel)
              have ov2813 := w2808.over (by rw [c2789]; omega)
              obtain ⟨v2814, c2815⟩ : ∃ v, I2802 a0 9 = v := ⟨_, rfl⟩
              have b2816 := iv15_9 hS2809.1 ta0 c2815
              obtain ⟨v2817, c2818⟩ : ∃ v, I2802 a0 13 = v := ⟨_, rfl⟩
              obtain ⟨v2819, c2820⟩ : ∃ v, I2802 a0 14 = v := ⟨_, rfl⟩
              (try rw [c2815] at ov2813)
              (try rw [c2818] at ov2813)
              (try rw [c2820] at ov2813)
              (try rw [c2789] at ov2813)
              (try rw [c2792] at ov2813)
              (try rw [c2794] at ov2813)
              refine tr_istore dX12_readEvent_86 (by decide) (by decide) ?_
              refine tr_aload_n dX12_readEvent_88 rfl ?_
              refine q_getI dX12_readEvent_89 fl12_99 (kR15 hS2809.1 ta0) c2815 ?_
              refine q_iconst dX12_readEvent_92 (by decide) ?_
              intro v2821 h2822
              refine q_icmp_ne 97 dX12_readEvent_93 (by decide) (fun h2823 => ?_) (fun h2823 => ?_)
              · skip
                exfalso; omega
              · skip
                have eF := hF.eq
                have eP := hP.eq
                obtain ⟨v2824, c2825⟩ : ∃ v, I2802 a0 10 = v := ⟨_, rfl⟩
                have b2826 := iv15_10 hS2809.1 ta0 c2825
                obtain ⟨v2827, c2828⟩ : ∃ v, I2802 a0 11 = v := ⟨_, rfl⟩
                obtain ⟨y2829, c2830⟩ : ∃ v, L2804 a0 15 = v := ⟨_, rfl⟩
                obtain ⟨v2831, c2832⟩ : ∃ v, I2802 a0 12 = v := ⟨_, rfl⟩
                obtain ⟨v2833, c2834⟩ : ∃ v, I2802 a0 8 = v := ⟨_, rfl⟩
                have b2835 := iv15_8 hS2809.1 ta0 c2834
                exact tr_vret hZ dX12_readEvent_96 rfl (by decide) (by decide) ⟨rfl, rfl, rfl, rfl, rfl, hS2809, (fun b hb => (Option.some.inj (d2.symm.trans hb)) ▸ (((((FrM.rf (R := R0) (b := a1) (T := T)).st g2181 (by decide +kernel)).st g2256 (by decide +kernel)).st g2779 (by decide +kernel)).st g2805 (by decide +kernel))), (fun dr hd => (Option.some.inj (d2.symm.trans hd)) ▸ hO2812), (Or.inr (⟨(by (try rw [w2231]); first | done | with_reducible assumption | omega), (by (try rw [w2231]); (try rw [c2815]); first | done | with_reducible assumption | omega), (by (try rw [w2231]); (try rw [c2818]); first | done | with_reducible assumption | omega), (by (try rw [w2231]); (try rw [c2820]); first | done | with_reducible assumption | omega), trivial⟩)), trivial⟩
            · skip
              exfalso; omega
    · skip
      obtain ⟨v2836, c2837⟩ : ∃ v, I2178 a0 9 = v := ⟨_, rfl⟩
      have b2838 := iv15_9 hS2186.1 ta0 c2837
      rw [c2837] at p2201
      obtain ⟨v2839, c2840⟩ : ∃ v, I2178 a0 13 = v := ⟨_, rfl⟩
      rw [c2840] at p2202
      obtain ⟨v2841, c2842⟩ : ∃ v, I2178 a0 14 = v := ⟨_, rfl⟩
      rw [c2842] at p2203
      have p2843 := p61
      unfold Q7M at p2843
      replace hF := hF.pos (by omega)
      replace hP := hP.pos (by omega)
      clear p2843
      refine tr_iload_n dX12_readEvent_13 rfl ?_
      refine q_iconst dX12_readEvent_14 (by decide) ?_
      intro v2844 h2845
      refine q_icmp_eq 23 dX12_readEvent_15 (by decide) (fun h2846 => ?_) (fun h2846 => ?_)
      · skip
        exfalso; omega
      · skip
        refine tr_iload_n dX12_readEvent_18 rfl ?_
        refine q_iconst dX12_readEvent_19 (by decide) ?_
        intro v2847 h2848
        refine q_icmp_ne 40 dX12_readEvent_20 (by decide) (fun h2849 => ?_) (fun h2849 => ?_)
        · skip
          exfalso; omega
        · skip
          refine tr_aload_n dX12_readEvent_23 rfl ?_
          refine q_iconst dX12_readEvent_24 (by decide) ?_
          intro v2850 h2851
          refine tr_aload_n dX12_readEvent_25 rfl ?_
          refine tr_getR dX12_readEvent_26 fl12_188 (kR15 hS2186.1 ta0) d2 ?_
          refine q_getI dX12_readEvent_29 fl12_263 (kR14 hS2186.1 ta1) ((hS2186.cell ta1 (by decide +kernel)).trans c34) ?_
          refine q_iconst dX12_readEvent_32 (by decide) ?_
          intro v2852 h2853
          refine q_isubE dX12_readEvent_33 (by intros; omega) ?_
          intro v2854 h2855
          refine q_callVi hE (M' := mX12_readWhole) (as := [_, _]) dX12_readEvent_34 lk12_161 inX12_readWhole seX12_readWhole myX12_readWhole (by decide) ⟨by decide, by decide⟩ rfl (kR15 hS2186.1 ta0) (Nat.le_of_ble_eq_true rfl) rfl rfl (by decide) (by decide) (k_X12_readWhole hS2186.1 ta0) ?_
          rintro v2860 cn' K' N' I2856 R2857 L2858 ⟨rfl, rfl, rfl, rfl, g2859, p2861, w2862, -⟩
          have hS2863 := hS2186.tr g2859 (by decide +kernel) (by decide +kernel)
          have c2864 : I2856 a1 2 = v37 := (g2859.cell ta1 (by decide +kernel)).trans c2187
          have b2865 : 0 ≤ v2860.toInt ∧ v2860.toInt ≤ 3 := by omega
          clear p2861
          have hO2866 : FrO 14 a1 T I0 I2856 := hO2188.st g2859 (by decide +kernel)
          have ov2867 := w2862.over (by rw [c2837]; omega)
          obtain ⟨v2868, c2869⟩ : ∃ v, I2856 a0 9 = v := ⟨_, rfl⟩
          have b2870 := iv15_9 hS2863.1 ta0 c2869
          obtain ⟨v2871, c2872⟩ : ∃ v, I2856 a0 13 = v := ⟨_, rfl⟩
          obtain ⟨v2873, c2874⟩ : ∃ v, I2856 a0 14 = v := ⟨_, rfl⟩
          (try rw [c2869] at ov2867)
          (try rw [c2872] at ov2867)
          (try rw [c2874] at ov2867)
          (try rw [c2837] at ov2867)
          (try rw [c2840] at ov2867)
          (try rw [c2842] at ov2867)
          refine tr_goto 42 dX12_readEvent_37 (by decide) ?_
          refine tr_istore_n dX12_readEvent_42 (by decide) (by decide) ?_
          refine tr_aload_n dX12_readEvent_43 rfl ?_
          refine q_iconst dX12_readEvent_44 (by decide) ?_
          intro v2875 h2876
          refine tr_aload_n dX12_readEvent_45 rfl ?_
          refine tr_getR dX12_readEvent_46 fl12_188 (kR15 hS2863.1 ta0) d2 ?_
          refine q_getI dX12_readEvent_49 fl12_192 (kR14 hS2863.1 ta1) ((hS2863.cell ta1 (by decide +kernel)).trans c30) ?_
          refine q_iconst dX12_readEvent_52 (by decide) ?_
          intro v2877 h2878
          refine q_isubE dX12_readEvent_53 (by intros; omega) ?_
          intro v2879 h2880
          refine q_callVi hE (M' := mX12_readWhole) (as := [_, _]) dX12_readEvent_54 lk12_161 inX12_readWhole seX12_readWhole myX12_readWhole (by decide) ⟨by decide, by decide⟩ rfl (kR15 hS2863.1 ta0) (Nat.le_of_ble_eq_true rfl) rfl rfl (by decide) (by decide) (k_X12_readWhole hS2863.1 ta0) ?_
          rintro v2885 cn' K' N' I2881 R2882 L2883 ⟨rfl, rfl, rfl, rfl, g2884, p2886, w2887, -⟩
          have hS2888 := hS2863.tr g2884 (by decide +kernel) (by decide +kernel)
          have c2889 : I2881 a1 2 = v37 := (g2884.cell ta1 (by decide +kernel)).trans c2864
          have b2890 : 0 ≤ v2885.toInt ∧ v2885.toInt ≤ 239 := by omega
          clear p2886
          have hO2891 : FrO 14 a1 T I0 I2881 := hO2866.st g2884 (by decide +kernel)
          have ov2892 := w2887.over (by rw [c2869]; omega)
          obtain ⟨v2893, c2894⟩ : ∃ v, I2881 a0 9 = v := ⟨_, rfl⟩
          have b2895 := iv15_9 hS2888.1 ta0 c2894
          obtain ⟨v2896, c2897⟩ : ∃ v, I2881 a0 13 = v := ⟨_, rfl⟩
          obtain ⟨v2898, c2899⟩ : ∃ v, I2881 a0 14 = v := ⟨_, rfl⟩
          (try rw [c2894] at ov2892)
          (try rw [c2897] at ov2892)
          (try rw [c2899] at ov2892)
          (try rw [c2869] at ov2892)
          (try rw [c2872] at ov2892)
          (try rw [c2874] at ov2892)
          refine tr_istore_n dX12_readEvent_57 (by decide) (by decide) ?_
          refine tr_iload_n dX12_readEvent_58 rfl ?_
          refine q_iconst dX12_readEvent_59 (by decide) ?_
          intro v2900 h2901
          refine q_icmp_ne 69 dX12_readEvent_60 (by decide) (fun h2902 => ?_) (fun h2902 => ?_)
          · skip
            refine tr_aload_n dX12_readEvent_69 rfl ?_
            refine tr_ldcwS dX12_readEvent_70 ld12_272 ?_
            refine tr_iload_n dX12_readEvent_73 rfl ?_
            refine q_iconst dX12_readEvent_74 (by decide) ?_
            intro v2903 h2904
            refine q_iaddE dX12_readEvent_75 (by intros; omega) ?_
            intro v2905 h2906
            refine tr_aload_n dX12_readEvent_76 rfl ?_
            refine tr_getR dX12_readEvent_77 fl12_188 (kR15 hS2888.1 ta0) d2 ?_
            refine q_getI dX12_readEvent_80 fl12_192 (kR14 hS2888.1 ta1) ((hS2888.cell ta1 (by decide +kernel)).trans c30) ?_
            refine q_callVi hE (M' := mX12_readPart) (as := [_, _, _]) dX12_readEvent_83 lk12_249 inX12_readPart seX12_readPart myX12_readPart (by decide) ⟨by decide, by decide⟩ rfl (kR15 hS2888.1 ta0) (Nat.le_of_ble_eq_true rfl) rfl rfl (by decide) (by decide) (k_X12_readPart hS2888.1 ta0 (by decide)) ?_
            rintro v2911 cn' K' N' I2907 R2908 L2909 ⟨rfl, rfl, rfl, rfl, g2910, p2912, w2913, -⟩
            have hS2914 := hS2888.tr g2910 (by decide +kernel) (by decide +kernel)
            have c2915 : I2907 a1 2 = v37 := (g2910.cell ta1 (by decide +kernel)).trans c2889
            have b2916 : 1 ≤ v2911.toInt ∧ v2911.toInt ≤ 240 := by omega
            clear p2912
            have hO2917 : FrO 14 a1 T I0 I2907 := hO2891.st g2910 (by decide +kernel)
            have ov2918 := w2913.over (by rw [c2894]; omega)
            obtain ⟨v2919, c2920⟩ : ∃ v, I2907 a0 9 = v := ⟨_, rfl⟩
            have b2921 := iv15_9 hS2914.1 ta0 c2920
            obtain ⟨v2922, c2923⟩ : ∃ v, I2907 a0 13 = v := ⟨_, rfl⟩
            obtain ⟨v2924, c2925⟩ : ∃ v, I2907 a0 14 = v := ⟨_, rfl⟩
            (try rw [c2920] at ov2918)
            (try rw [c2923] at ov2918)
            (try rw [c2925] at ov2918)
            (try rw [c2894] at ov2918)
            (try rw [c2897] at ov2918)
            (try rw [c2899] at ov2918)
            refine tr_istore dX12_readEvent_86 (by decide) (by decide) ?_
            refine tr_aload_n dX12_readEvent_88 rfl ?_
            refine q_getI dX12_readEvent_89 fl12_99 (kR15 hS2914.1 ta0) c2920 ?_
            refine q_iconst dX12_readEvent_92 (by decide) ?_
            intro v2926 h2927
            refine q_icmp_ne 97 dX12_readEvent_93 (by decide) (fun h2928 => ?_) (fun h2928 => ?_)
            · skip
              exfalso; omega
            · skip
              have eF := hF.eq
              have eP := hP.eq
              obtain ⟨v2929, c2930⟩ : ∃ v, I2907 a0 10 = v := ⟨_, rfl⟩
              have b2931 := iv15_10 hS2914.1 ta0 c2930
              obtain ⟨v2932, c2933⟩ : ∃ v, I2907 a0 11 = v := ⟨_, rfl⟩
              obtain ⟨y2934, c2935⟩ : ∃ v, L2909 a0 15 = v := ⟨_, rfl⟩
              obtain ⟨v2936, c2937⟩ : ∃ v, I2907 a0 12 = v := ⟨_, rfl⟩
              obtain ⟨v2938, c2939⟩ : ∃ v, I2907 a0 8 = v := ⟨_, rfl⟩
              have b2940 := iv15_8 hS2914.1 ta0 c2939
              exact tr_vret hZ dX12_readEvent_96 rfl (by decide) (by decide) ⟨rfl, rfl, rfl, rfl, rfl, hS2914, (fun b hb => (Option.some.inj (d2.symm.trans hb)) ▸ (((((FrM.rf (R := R0) (b := a1) (T := T)).st g2181 (by decide +kernel)).st g2859 (by decide +kernel)).st g2884 (by decide +kernel)).st g2910 (by decide +kernel))), (fun dr hd => (Option.some.inj (d2.symm.trans hd)) ▸ hO2917), (Or.inr (⟨(by first | done | with_reducible assumption | omega), (by (try rw [c2920]); first | done | with_reducible assumption | omega), (by (try rw [c2923]); first | done | with_reducible assumption | omega), (by (try rw [c2925]); first | done | with_reducible assumption | omega), trivial⟩)), trivial⟩
          · skip
            exfalso; omega
    · skip
      obtain ⟨v2941, c2942⟩ : ∃ v, I2178 a0 9 = v := ⟨_, rfl⟩
      have b2943 := iv15_9 hS2186.1 ta0 c2942
      rw [c2942] at p2206
      obtain ⟨v2944, c2945⟩ : ∃ v, I2178 a0 13 = v := ⟨_, rfl⟩
      rw [c2945] at p2207
      obtain ⟨v2946, c2947⟩ : ∃ v, I2178 a0 14 = v := ⟨_, rfl⟩
      rw [c2947] at p2208
      have p2948 := p61
      unfold Q7M at p2948
      replace hF := hF.neg (by omega)
      replace hP := hP.neg (by omega)
      replace hF := hF.pos (by omega)
      replace hP := hP.pos (by omega)
      clear p2948
      refine tr_iload_n dX12_readEvent_13 rfl ?_
      refine q_iconst dX12_readEvent_14 (by decide) ?_
      intro v2949 h2950
      refine q_icmp_eq 23 dX12_readEvent_15 (by decide) (fun h2951 => ?_) (fun h2951 => ?_)
      · skip
        exfalso; omega
      · skip
        refine tr_iload_n dX12_readEvent_18 rfl ?_
        refine q_iconst dX12_readEvent_19 (by decide) ?_
        intro v2952 h2953
        refine q_icmp_ne 40 dX12_readEvent_20 (by decide) (fun h2954 => ?_) (fun h2954 => ?_)
        · skip
          exfalso; omega
        · skip
          refine tr_aload_n dX12_readEvent_23 rfl ?_
          refine q_iconst dX12_readEvent_24 (by decide) ?_
          intro v2955 h2956
          refine tr_aload_n dX12_readEvent_25 rfl ?_
          refine tr_getR dX12_readEvent_26 fl12_188 (kR15 hS2186.1 ta0) d2 ?_
          refine q_getI dX12_readEvent_29 fl12_263 (kR14 hS2186.1 ta1) ((hS2186.cell ta1 (by decide +kernel)).trans c34) ?_
          refine q_iconst dX12_readEvent_32 (by decide) ?_
          intro v2957 h2958
          refine q_isubE dX12_readEvent_33 (by intros; omega) ?_
          intro v2959 h2960
          refine q_callVi hE (M' := mX12_readWhole) (as := [_, _]) dX12_readEvent_34 lk12_161 inX12_readWhole seX12_readWhole myX12_readWhole (by decide) ⟨by decide, by decide⟩ rfl (kR15 hS2186.1 ta0) (Nat.le_of_ble_eq_true rfl) rfl rfl (by decide) (by decide) (k_X12_readWhole hS2186.1 ta0) ?_
          rintro v2965 cn' K' N' I2961 R2962 L2963 ⟨rfl, rfl, rfl, rfl, g2964, p2966, w2967, -⟩
          have hS2968 := hS2186.tr g2964 (by decide +kernel) (by decide +kernel)
          have c2969 : I2961 a1 2 = v37 := (g2964.cell ta1 (by decide +kernel)).trans c2187
          have b2970 : 0 ≤ v2965.toInt ∧ v2965.toInt ≤ 3 := by omega
          clear p2966
          have hO2971 : FrO 14 a1 T I0 I2961 := hO2188.st g2964 (by decide +kernel)
          have ov2972 := w2967.over (by rw [c2942]; omega)
          obtain ⟨v2973, c2974⟩ : ∃ v, I2961 a0 9 = v := ⟨_, rfl⟩
          have b2975 := iv15_9 hS2968.1 ta0 c2974
          obtain ⟨v2976, c2977⟩ : ∃ v, I2961 a0 13 = v := ⟨_, rfl⟩
          obtain ⟨v2978, c2979⟩ : ∃ v, I2961 a0 14 = v := ⟨_, rfl⟩
          (try rw [c2974] at ov2972)
          (try rw [c2977] at ov2972)
          (try rw [c2979] at ov2972)
          (try rw [c2942] at ov2972)
          (try rw [c2945] at ov2972)
          (try rw [c2947] at ov2972)
          refine tr_goto 42 dX12_readEvent_37 (by decide) ?_
          refine tr_istore_n dX12_readEvent_42 (by decide) (by decide) ?_
          refine tr_aload_n dX12_readEvent_43 rfl ?_
          refine q_iconst dX12_readEvent_44 (by decide) ?_
          intro v2980 h2981
          refine tr_aload_n dX12_readEvent_45 rfl ?_
          refine tr_getR dX12_readEvent_46 fl12_188 (kR15 hS2968.1 ta0) d2 ?_
          refine q_getI dX12_readEvent_49 fl12_192 (kR14 hS2968.1 ta1) ((hS2968.cell ta1 (by decide +kernel)).trans c30) ?_
          refine q_iconst dX12_readEvent_52 (by decide) ?_
          intro v2982 h2983
          refine q_isubE dX12_readEvent_53 (by intros; omega) ?_
          intro v2984 h2985
          refine q_callVi hE (M' := mX12_readWhole) (as := [_, _]) dX12_readEvent_54 lk12_161 inX12_readWhole seX12_readWhole myX12_readWhole (by decide) ⟨by decide, by decide⟩ rfl (kR15 hS2968.1 ta0) (Nat.le_of_ble_eq_true rfl) rfl rfl (by decide) (by decide) (k_X12_readWhole hS2968.1 ta0) ?_
          rintro v2990 cn' K' N' I2986 R2987 L2988 ⟨rfl, rfl, rfl, rfl, g2989, p2991, w2992, -⟩
          have hS2993 := hS2968.tr g2989 (by decide +kernel) (by decide +kernel)
          have c2994 : I2986 a1 2 = v37 := (g2989.cell ta1 (by decide +kernel)).trans c2969
          have b2995 : 0 ≤ v2990.toInt ∧ v2990.toInt ≤ 0 := by omega
          clear p2991
          have hO2996 : FrO 14 a1 T I0 I2986 := hO2971.st g2989 (by decide +kernel)
          have ov2997 := w2992.over (by rw [c2974]; omega)
          obtain ⟨v2998, c2999⟩ : ∃ v, I2986 a0 9 = v := ⟨_, rfl⟩
          have b3000 := iv15_9 hS2993.1 ta0 c2999
          obtain ⟨v3001, c3002⟩ : ∃ v, I2986 a0 13 = v := ⟨_, rfl⟩
          obtain ⟨v3003, c3004⟩ : ∃ v, I2986 a0 14 = v := ⟨_, rfl⟩
          (try rw [c2999] at ov2997)
          (try rw [c3002] at ov2997)
          (try rw [c3004] at ov2997)
          (try rw [c2974] at ov2997)
          (try rw [c2977] at ov2997)
          (try rw [c2979] at ov2997)
          refine tr_istore_n dX12_readEvent_57 (by decide) (by decide) ?_
          refine tr_iload_n dX12_readEvent_58 rfl ?_
          refine q_iconst dX12_readEvent_59 (by decide) ?_
          intro v3005 h3006
          refine q_icmp_ne 69 dX12_readEvent_60 (by decide) (fun h3007 => ?_) (fun h3007 => ?_)
          · skip
            refine tr_aload_n dX12_readEvent_69 rfl ?_
            refine tr_ldcwS dX12_readEvent_70 ld12_272 ?_
            refine tr_iload_n dX12_readEvent_73 rfl ?_
            refine q_iconst dX12_readEvent_74 (by decide) ?_
            intro v3008 h3009
            refine q_iaddE dX12_readEvent_75 (by intros; omega) ?_
            intro v3010 h3011
            refine tr_aload_n dX12_readEvent_76 rfl ?_
            refine tr_getR dX12_readEvent_77 fl12_188 (kR15 hS2993.1 ta0) d2 ?_
            refine q_getI dX12_readEvent_80 fl12_192 (kR14 hS2993.1 ta1) ((hS2993.cell ta1 (by decide +kernel)).trans c30) ?_
            refine q_callVi hE (M' := mX12_readPart) (as := [_, _, _]) dX12_readEvent_83 lk12_249 inX12_readPart seX12_readPart myX12_readPart (by decide) ⟨by decide, by decide⟩ rfl (kR15 hS2993.1 ta0) (Nat.le_of_ble_eq_true rfl) rfl rfl (by decide) (by decide) (k_X12_readPart hS2993.1 ta0 (by decide)) ?_
            rintro v3016 cn' K' N' I3012 R3013 L3014 ⟨rfl, rfl, rfl, rfl, g3015, p3017, w3018, -⟩
            have hS3019 := hS2993.tr g3015 (by decide +kernel) (by decide +kernel)
            have c3020 : I3012 a1 2 = v37 := (g3015.cell ta1 (by decide +kernel)).trans c2994
            have b3021 : 1 ≤ v3016.toInt ∧ v3016.toInt ≤ 1 := by omega
            clear p3017
            have hO3022 : FrO 14 a1 T I0 I3012 := hO2996.st g3015 (by decide +kernel)
            have ov3023 := w3018.over (by rw [c2999]; omega)
            obtain ⟨v3024, c3025⟩ : ∃ v, I3012 a0 9 = v := ⟨_, rfl⟩
            have b3026 := iv15_9 hS3019.1 ta0 c3025
            obtain ⟨v3027, c3028⟩ : ∃ v, I3012 a0 13 = v := ⟨_, rfl⟩
            obtain ⟨v3029, c3030⟩ : ∃ v, I3012 a0 14 = v := ⟨_, rfl⟩
            (try rw [c3025] at ov3023)
            (try rw [c3028] at ov3023)
            (try rw [c3030] at ov3023)
            (try rw [c2999] at ov3023)
            (try rw [c3002] at ov3023)
            (try rw [c3004] at ov3023)
            refine tr_istore dX12_readEvent_86 (by decide) (by decide) ?_
            refine tr_aload_n dX12_readEvent_88 rfl ?_
            refine q_getI dX12_readEvent_89 fl12_99 (kR15 hS3019.1 ta0) c3025 ?_
            refine q_iconst dX12_readEvent_92 (by decide) ?_
            intro v3031 h3032
            refine q_icmp_ne 97 dX12_readEvent_93 (by decide) (fun h3033 => ?_) (fun h3033 => ?_)
            · skip
              exfalso; omega
            · skip
              have eF := hF.eq
              have eP := hP.eq
              obtain ⟨v3034, c3035⟩ : ∃ v, I3012 a0 10 = v := ⟨_, rfl⟩
              have b3036 := iv15_10 hS3019.1 ta0 c3035
              obtain ⟨v3037, c3038⟩ : ∃ v, I3012 a0 11 = v := ⟨_, rfl⟩
              obtain ⟨y3039, c3040⟩ : ∃ v, L3014 a0 15 = v := ⟨_, rfl⟩
              obtain ⟨v3041, c3042⟩ : ∃ v, I3012 a0 12 = v := ⟨_, rfl⟩
              obtain ⟨v3043, c3044⟩ : ∃ v, I3012 a0 8 = v := ⟨_, rfl⟩
              have b3045 := iv15_8 hS3019.1 ta0 c3044
              exact tr_vret hZ dX12_readEvent_96 rfl (by decide) (by decide) ⟨rfl, rfl, rfl, rfl, rfl, hS3019, (fun b hb => (Option.some.inj (d2.symm.trans hb)) ▸ (((((FrM.rf (R := R0) (b := a1) (T := T)).st g2181 (by decide +kernel)).st g2964 (by decide +kernel)).st g2989 (by decide +kernel)).st g3015 (by decide +kernel))), (fun dr hd => (Option.some.inj (d2.symm.trans hd)) ▸ hO3022), (Or.inr (⟨(by first | done | with_reducible assumption | omega), (by (try rw [c3025]); first | done | with_reducible assumption | omega), (by (try rw [c3028]); first | done | with_reducible assumption | omega), (by (try rw [c3030]); first | done | with_reducible assumption | omega), trivial⟩)), trivial⟩
          · skip
            exfalso; omega
  · skip
    refine tr_aload_n dX12_readEvent_0 rfl ?_
    refine tr_aload_n dX12_readEvent_1 rfl ?_
    refine tr_getR dX12_readEvent_2 fl12_188 (kR15 hS0.1 ta0) d2 ?_
    refine q_getI dX12_readEvent_5 fl12_265 (kR14 hS0.1 ta1) c38 ?_
    refine q_bipush dX12_readEvent_8 (by decide +kernel) ?_
    intro v3046 h3047
    refine q_callVv hE (M' := mX12_begins) (as := [_, _]) dX12_readEvent_10 lk12_268 inX12_begins seX12_begins myX12_begins (by decide) ⟨by decide, by decide⟩ rfl (kR15 hS0.1 ta0) (Nat.le_of_ble_eq_true rfl) rfl rfl (by decide) (by decide) (fk_X12_begins hS0.1 (gB) (gs) (gQ) ta0 (TxA.kp hT hS0 ta0 rfl rfl rfl (by decide +kernel) (by decide +kernel)) (by (try rw [c4]); first | done | with_reducible assumption | omega) (by (try rw [c4]); first | done | with_reducible assumption | omega) (by (try rw [c9]); first | done | with_reducible assumption | omega) (by (try rw [c13]); first | done | with_reducible assumption | omega) (by (try rw [c16]); first | done | assumption) (by (try rw [c19]); first | done | assumption) (by (try rw [c22]); first | done | assumption) (by (try rw [c26]); first | done | with_reducible assumption | omega) (fun q0 z0 => by obtain rfl := Option.some.inj ((d2).symm.trans z0); (try rw [c30]); first | done | with_reducible assumption | omega) (by first | done | with_reducible assumption | omega) ⟨_, d2⟩) ?_
    rintro cn' K' N' I3048 R3049 L3050 ⟨rfl, rfl, rfl, rfl, g3051, dj3054, -⟩
    have hM3055 : NmM I3048 R0 L0 a1 gQ := NmM.kpS hM0 g3051 hS0.1 ta1 (by decide +kernel) (by decide +kernel)
    have hS3056 := hS0.tr g3051 (by decide +kernel) (by decide +kernel)
    have c3057 : I3048 a1 2 = v37 := (g3051.cell ta1 (by decide +kernel)).trans c38
    have hO3058 : FrO 14 a1 T I0 I3048 := hO0.st g3051 (by decide +kernel)
    rcases dj3054 with ⟨p3059, p3060, p3061, p3062, p3063, p3064, p3065, p3066, p3067, p3068, gl3069, -⟩ | ⟨p3070, p3071, p3072, p3073, -⟩ | ⟨p3074, p3075, p3076, p3077, p3078, -⟩
    · skip
      have hL3079 := hL0.tr gl3069 (by decide +kernel)
      have hM3080 : NmM I3048 R0 L3050 a1 gQ := NmM.kpL hM3055 gl3069 hS3056.1 ta1 (by decide +kernel)
      obtain ⟨v3081, c3082⟩ : ∃ v, I3048 a0 13 = v := ⟨_, rfl⟩
      rw [c3082] at p3061
      rw [c65] at p3061
      obtain ⟨v3083, c3084⟩ : ∃ v, I3048 a0 9 = v := ⟨_, rfl⟩
      have b3085 := iv15_9 hS3056.1 ta0 c3084
      rw [c3084] at p3062
      rw [c3084] at p3063
      obtain ⟨v3086, c3087⟩ : ∃ v, I3048 a0 10 = v := ⟨_, rfl⟩
      have b3088 := iv15_10 hS3056.1 ta0 c3087
      rw [c3087] at p3064
      obtain ⟨v3089, c3090⟩ : ∃ v, I3048 a0 11 = v := ⟨_, rfl⟩
      rw [c3090] at p3065
      obtain ⟨y3091, c3092⟩ : ∃ v, L3050 a0 15 = v := ⟨_, rfl⟩
      rw [c3092] at p3066
      obtain ⟨v3093, c3094⟩ : ∃ v, I3048 a0 12 = v := ⟨_, rfl⟩
      rw [c3094] at p3067
      obtain ⟨v3095, c3096⟩ : ∃ v, I3048 a0 8 = v := ⟨_, rfl⟩
      have b3097 := iv15_8 hS3056.1 ta0 c3096
      rw [c3096] at p3068
      have p3098 := p61
      unfold Q7M at p3098
      replace hF := hF.neg (by omega)
      replace hP := hP.neg (by omega)
      replace hF := hF.neg (by omega)
      replace hP := hP.neg (by omega)
      clear p3098
      obtain ⟨w3099, w3100, w3101, w3102, w3103, w3104, w3105, w3106, w3107, w3108, w3109, w3110⟩ := lnl_e (B := gB) (Q := gQ) (s := gs) (by omega) (by omega)
      replace hF := hF.to w3099 (evF_c4 (B := gB) (Q := gQ) (k := srt gB gs) (s := (tkN gB gs)) (by omega))
      replace hP := hP.to w3100 (evP_c4 (B := gB) (Q := gQ) (k := srt gB gs) (s := (tkN gB gs)) (by omega))
      refine tr_iload_n dX12_readEvent_13 rfl ?_
      refine q_iconst dX12_readEvent_14 (by decide) ?_
      intro v3111 h3112
      refine q_icmp_eq 23 dX12_readEvent_15 (by decide) (fun h3113 => ?_) (fun h3113 => ?_)
      · skip
        exfalso; omega
      · skip
        refine tr_iload_n dX12_readEvent_18 rfl ?_
        refine q_iconst dX12_readEvent_19 (by decide) ?_
        intro v3114 h3115
        refine q_icmp_ne 40 dX12_readEvent_20 (by decide) (fun h3116 => ?_) (fun h3116 => ?_)
        · skip
          refine q_bipush dX12_readEvent_40 (by decide +kernel) ?_
          intro v3117 h3118
          refine tr_istore_n dX12_readEvent_42 (by decide) (by decide) ?_
          refine tr_aload_n dX12_readEvent_43 rfl ?_
          refine q_iconst dX12_readEvent_44 (by decide) ?_
          intro v3119 h3120
          refine tr_aload_n dX12_readEvent_45 rfl ?_
          refine tr_getR dX12_readEvent_46 fl12_188 (kR15 hS3056.1 ta0) d2 ?_
          refine q_getI dX12_readEvent_49 fl12_192 (kR14 hS3056.1 ta1) ((hS3056.cell ta1 (by decide +kernel)).trans c30) ?_
          refine q_iconst dX12_readEvent_52 (by decide) ?_
          intro v3121 h3122
          refine q_isubE dX12_readEvent_53 (by intros; omega) ?_
          intro v3123 h3124
          refine q_callVi hE (M' := mX12_readWhole) (as := [_, _]) dX12_readEvent_54 lk12_161 inX12_readWhole seX12_readWhole myX12_readWhole (by decide) ⟨by decide, by decide⟩ rfl (kR15 hS3056.1 ta0) (Nat.le_of_ble_eq_true rfl) rfl rfl (by decide) (by decide) (fk_X12_readWhole hS3056.1 (gB) ((tkN gB gs)) ta0 (TxA.kp hT hS3056 ta0 rfl rfl rfl (by decide +kernel) (by decide +kernel)) (by (try rw [c3084]); first | done | with_reducible assumption | omega) (by (try rw [c3084]); first | done | with_reducible assumption | omega) (by (try rw [c3087]); first | done | with_reducible assumption | omega) (by (try rw [c3090]); first | done | with_reducible assumption | omega) (by (try rw [c3092]); first | done | assumption) (by (try rw [c3094]); first | done | assumption) (by (try rw [c3096]); first | done | assumption) (by (try rw [((hS3056.cell ta0 (by decide +kernel)).trans c26)]); first | done | with_reducible assumption | omega)) ?_
          rintro v3130 cn' K' N' I3125 R3126 L3127 ⟨rfl, rfl, rfl, rfl, g3128, dj3131, -⟩
          have hM3132 : NmM I3125 R0 L3050 a1 gQ := NmM.kpS hM3080 g3128 hS3056.1 ta1 (by decide +kernel) (by decide +kernel)
          have hS3133 := hS3056.tr g3128 (by decide +kernel) (by decide +kernel)
          have c3134 : I3125 a1 2 = v37 := (g3128.cell ta1 (by decide +kernel)).trans c3057
          have hO3135 : FrO 14 a1 T I0 I3125 := hO3058.st g3128 (by decide +kernel)
          rcases dj3131 with ⟨p3136, p3137, p3138, p3139, p3140, p3141, p3142, p3143, p3144, p3145, p3146, p3147, gl3148, -⟩ | ⟨p3149, p3150, p3151, p3152, p3153, -⟩ | ⟨p3154, p3155, p3156, p3157, p3158, p3159, -⟩
          · skip
            have hL3160 := hL3079.tr gl3148 (by decide +kernel)
            have hM3161 : NmM I3125 R0 L3127 a1 gQ := NmM.kpL hM3132 gl3148 hS3133.1 ta1 (by decide +kernel)
            obtain ⟨v3162, c3163⟩ : ∃ v, I3125 a0 13 = v := ⟨_, rfl⟩
            rw [c3163] at p3140
            rw [c3082] at p3140
            obtain ⟨v3164, c3165⟩ : ∃ v, I3125 a0 9 = v := ⟨_, rfl⟩
            have b3166 := iv15_9 hS3133.1 ta0 c3165
            rw [c3165] at p3141
            rw [c3165] at p3142
            obtain ⟨v3167, c3168⟩ : ∃ v, I3125 a0 10 = v := ⟨_, rfl⟩
            have b3169 := iv15_10 hS3133.1 ta0 c3168
            rw [c3168] at p3143
            obtain ⟨v3170, c3171⟩ : ∃ v, I3125 a0 11 = v := ⟨_, rfl⟩
            rw [c3171] at p3144
            obtain ⟨y3172, c3173⟩ : ∃ v, L3127 a0 15 = v := ⟨_, rfl⟩
            rw [c3173] at p3145
            obtain ⟨v3174, c3175⟩ : ∃ v, I3125 a0 12 = v := ⟨_, rfl⟩
            rw [c3175] at p3146
            obtain ⟨v3176, c3177⟩ : ∃ v, I3125 a0 8 = v := ⟨_, rfl⟩
            have b3178 := iv15_8 hS3133.1 ta0 c3177
            rw [c3177] at p3147
            replace hF := hF.neg (by omega)
            replace hP := hP.neg (by omega)
            replace hF := hF.neg (by omega)
            replace hP := hP.neg (by omega)
            refine tr_istore_n dX12_readEvent_57 (by decide) (by decide) ?_
            refine tr_iload_n dX12_readEvent_58 rfl ?_
            refine q_iconst dX12_readEvent_59 (by decide) ?_
            intro v3179 h3180
            refine q_icmp_ne 69 dX12_readEvent_60 (by decide) (fun h3181 => ?_) (fun h3181 => ?_)
            · skip
              exfalso; omega
            · skip
              refine tr_iload_n dX12_readEvent_63 rfl ?_
              refine q_iconst dX12_readEvent_64 (by decide) ?_
              intro v3182 h3183
              refine q_iaddE dX12_readEvent_65 (by intros; omega) ?_
              intro v3184 h3185
              refine tr_goto 86 dX12_readEvent_66 (by decide) ?_
              refine tr_istore dX12_readEvent_86 (by decide) (by decide) ?_
              refine tr_aload_n dX12_readEvent_88 rfl ?_
              refine q_getI dX12_readEvent_89 fl12_99 (kR15 hS3133.1 ta0) c3165 ?_
              refine q_iconst dX12_readEvent_92 (by decide) ?_
              intro v3186 h3187
              refine q_icmp_ne 97 dX12_readEvent_93 (by decide) (fun h3188 => ?_) (fun h3188 => ?_)
              · skip
                refine tr_aload_n dX12_readEvent_97 rfl ?_
                refine tr_getR dX12_readEvent_98 fl12_188 (kR15 hS3133.1 ta0) d2 ?_
                refine q_getI dX12_readEvent_101 fl12_265 (kR14 hS3133.1 ta1) c3134 ?_
                refine tr_istore dX12_readEvent_104 (by decide) (by decide) ?_
                refine tr_aload_n dX12_readEvent_106 rfl ?_
                refine tr_getR dX12_readEvent_107 fl12_188 (kR15 hS3133.1 ta0) d2 ?_
                refine tr_getR dX12_readEvent_110 fl12_274 (kR14 hS3133.1 ta1) d67 ?_
                refine tr_iload dX12_readEvent_113 rfl ?_
                refine tr_iload_n dX12_readEvent_115 rfl ?_
                refine q_iastX dX12_readEvent_116 (kR54 hS3133.1 ta66) (ti_in (nR54 hS3133.1 ta66) (by omega) (by omega)) hS3133 ta66 (by rfl) (hS3133.1.putK (m := a1) ta1 d67 (by rw [c3134]; exact Int.le_of_eq (ti_nat (by omega)).symm)) ?_
                intro I3193 hS3194 e3195 f3196
                have c3197 : I3193 a1 2 = v37 := (f3196 _ _ (fun q => by have z := ta1; rw [q.1, ta66] at z; exact absurd z (by decide))).trans c3134
                have c3198 : I3193 a0 13 = v3162 := (f3196 _ _ (fun q => by have z := ta0; rw [q.1, ta66] at z; exact absurd z (by decide))).trans c3163
                have c3199 : I3193 a0 9 = v3164 := (f3196 _ _ (fun q => by have z := ta0; rw [q.1, ta66] at z; exact absurd z (by decide))).trans c3165
                have c3200 : I3193 a0 10 = v3167 := (f3196 _ _ (fun q => by have z := ta0; rw [q.1, ta66] at z; exact absurd z (by decide))).trans c3168
                have c3201 : I3193 a0 11 = v3170 := (f3196 _ _ (fun q => by have z := ta0; rw [q.1, ta66] at z; exact absurd z (by decide))).trans c3171
                have c3202 : I3193 a0 12 = v3174 := (f3196 _ _ (fun q => by have z := ta0; rw [q.1, ta66] at z; exact absurd z (by decide))).trans c3175
                have c3203 : I3193 a0 8 = v3176 := (f3196 _ _ (fun q => by have z := ta0; rw [q.1, ta66] at z; exact absurd z (by decide))).trans c3177
                have hO3204 : FrO 14 a1 T I0 I3193 := hO3135.put f3196 ta66 (Or.inl (by decide))
                have hM3205 : NmM I3193 R0 L3127 a1 gQ := NmM.kp1 hM3161 f3196 ta66 rfl rfl hS3133.1 ta1
                refine tr_aload_n dX12_readEvent_117 rfl ?_
                refine tr_getR dX12_readEvent_118 fl12_188 (kR15 hS3194.1 ta0) d2 ?_
                refine tr_getR dX12_readEvent_121 fl12_277 (kR14 hS3194.1 ta1) d69 ?_
                refine tr_iload dX12_readEvent_124 rfl ?_
                refine tr_iload_n dX12_readEvent_126 rfl ?_
                refine q_iastX dX12_readEvent_127 (kR55 hS3194.1 ta68) (ti_in (nR55 hS3194.1 ta68) (by omega) (by omega)) hS3194 ta68 (by rfl) (hS3194.1.putH (m := a1) ta1 d69 (by rw [c3197]; exact Int.le_of_eq (ti_nat (by omega)).symm) (by omega)) ?_
                intro I3210 hS3211 e3212 f3213
                have c3214 : I3210 a1 2 = v37 := (f3213 _ _ (fun q => by have z := ta1; rw [q.1, ta68] at z; exact absurd z (by decide))).trans c3197
                have c3215 : I3210 a0 13 = v3162 := (f3213 _ _ (fun q => by have z := ta0; rw [q.1, ta68] at z; exact absurd z (by decide))).trans c3198
                have c3216 : I3210 a0 9 = v3164 := (f3213 _ _ (fun q => by have z := ta0; rw [q.1, ta68] at z; exact absurd z (by decide))).trans c3199
                have c3217 : I3210 a0 10 = v3167 := (f3213 _ _ (fun q => by have z := ta0; rw [q.1, ta68] at z; exact absurd z (by decide))).trans c3200
                have c3218 : I3210 a0 11 = v3170 := (f3213 _ _ (fun q => by have z := ta0; rw [q.1, ta68] at z; exact absurd z (by decide))).trans c3201
                have c3219 : I3210 a0 12 = v3174 := (f3213 _ _ (fun q => by have z := ta0; rw [q.1, ta68] at z; exact absurd z (by decide))).trans c3202
                have c3220 : I3210 a0 8 = v3176 := (f3213 _ _ (fun q => by have z := ta0; rw [q.1, ta68] at z; exact absurd z (by decide))).trans c3203
                have c3221 : I3210 a66 v37.toNatClampNeg = x1 := (f3213 _ _ (fun q => by have z := ta66; rw [q.1, ta68] at z; exact absurd z (by decide))).trans e3195
                have hO3222 : FrO 14 a1 T I0 I3210 := hO3204.put f3213 ta68 (Or.inl (by decide))
                have hM3223 : NmM I3210 R0 L3127 a1 gQ := NmM.kp1 hM3205 f3213 ta68 rfl rfl hS3194.1 ta1
                refine tr_aload_n dX12_readEvent_128 rfl ?_
                refine tr_getR dX12_readEvent_129 fl12_188 (kR15 hS3211.1 ta0) d2 ?_
                refine tr_getR dX12_readEvent_132 fl12_280 (kR14 hS3211.1 ta1) d71 ?_
                refine tr_iload dX12_readEvent_135 rfl ?_
                refine tr_iload_n dX12_readEvent_137 rfl ?_
                refine q_iast dX12_readEvent_138 (kR56 hS3211.1 ta70) (ti_in (nR56 hS3211.1 ta70) (by omega) (by omega)) hS3211 ta70 (by show (0 : Int) ≤ v3130.toInt ∧ v3130.toInt ≤ (240 : Int); omega) rfl (by rfl) ?_
                intro I3224 hS3225 e3227 f3226
                have c3228 : I3224 a1 2 = v37 := (f3226 _ _ (fun q => by have z := ta1; rw [q.1, ta70] at z; exact absurd z (by decide))).trans c3214
                have c3229 : I3224 a0 13 = v3162 := (f3226 _ _ (fun q => by have z := ta0; rw [q.1, ta70] at z; exact absurd z (by decide))).trans c3215
                have c3230 : I3224 a0 9 = v3164 := (f3226 _ _ (fun q => by have z := ta0; rw [q.1, ta70] at z; exact absurd z (by decide))).trans c3216
                have c3231 : I3224 a0 10 = v3167 := (f3226 _ _ (fun q => by have z := ta0; rw [q.1, ta70] at z; exact absurd z (by decide))).trans c3217
                have c3232 : I3224 a0 11 = v3170 := (f3226 _ _ (fun q => by have z := ta0; rw [q.1, ta70] at z; exact absurd z (by decide))).trans c3218
                have c3233 : I3224 a0 12 = v3174 := (f3226 _ _ (fun q => by have z := ta0; rw [q.1, ta70] at z; exact absurd z (by decide))).trans c3219
                have c3234 : I3224 a0 8 = v3176 := (f3226 _ _ (fun q => by have z := ta0; rw [q.1, ta70] at z; exact absurd z (by decide))).trans c3220
                have c3235 : I3224 a66 v37.toNatClampNeg = x1 := (f3226 _ _ (fun q => by have z := ta66; rw [q.1, ta70] at z; exact absurd z (by decide))).trans c3221
                have c3236 : I3224 a68 v37.toNatClampNeg = v3117 := (f3226 _ _ (fun q => by have z := ta68; rw [q.1, ta70] at z; exact absurd z (by decide))).trans e3212
                have hO3237 : FrO 14 a1 T I0 I3224 := hO3222.put f3226 ta70 (Or.inl (by decide))
                have hM3238 : NmM I3224 R0 L3127 a1 gQ := NmM.kp1 hM3223 f3226 ta70 rfl rfl hS3211.1 ta1
                refine tr_aload_n dX12_readEvent_139 rfl ?_
                refine tr_getR dX12_readEvent_140 fl12_188 (kR15 hS3225.1 ta0) d2 ?_
                refine tr_getR dX12_readEvent_143 fl12_283 (kR14 hS3225.1 ta1) d73 ?_
                refine tr_iload dX12_readEvent_146 rfl ?_
                refine tr_iload dX12_readEvent_148 rfl ?_
                refine q_iast dX12_readEvent_150 (kR57 hS3225.1 ta72) (ti_in (nR57 hS3225.1 ta72) (by omega) (by omega)) hS3225 ta72 (by show (0 : Int) ≤ v3184.toInt ∧ v3184.toInt ≤ (240 : Int); omega) rfl (by rfl) ?_
                intro I3239 hS3240 e3242 f3241
                have c3243 : I3239 a1 2 = v37 := (f3241 _ _ (fun q => by have z := ta1; rw [q.1, ta72] at z; exact absurd z (by decide))).trans c3228
                have c3244 : I3239 a0 13 = v3162 := (f3241 _ _ (fun q => by have z := ta0; rw [q.1, ta72] at z; exact absurd z (by decide))).trans c3229
                have c3245 : I3239 a0 9 = v3164 := (f3241 _ _ (fun q => by have z := ta0; rw [q.1, ta72] at z; exact absurd z (by decide))).trans c3230
                have c3246 : I3239 a0 10 = v3167 := (f3241 _ _ (fun q => by have z := ta0; rw [q.1, ta72] at z; exact absurd z (by decide))).trans c3231
                have c3247 : I3239 a0 11 = v3170 := (f3241 _ _ (fun q => by have z := ta0; rw [q.1, ta72] at z; exact absurd z (by decide))).trans c3232
                have c3248 : I3239 a0 12 = v3174 := (f3241 _ _ (fun q => by have z := ta0; rw [q.1, ta72] at z; exact absurd z (by decide))).trans c3233
                have c3249 : I3239 a0 8 = v3176 := (f3241 _ _ (fun q => by have z := ta0; rw [q.1, ta72] at z; exact absurd z (by decide))).trans c3234
                have c3250 : I3239 a66 v37.toNatClampNeg = x1 := (f3241 _ _ (fun q => by have z := ta66; rw [q.1, ta72] at z; exact absurd z (by decide))).trans c3235
                have c3251 : I3239 a68 v37.toNatClampNeg = v3117 := (f3241 _ _ (fun q => by have z := ta68; rw [q.1, ta72] at z; exact absurd z (by decide))).trans c3236
                have hO3252 : FrO 14 a1 T I0 I3239 := hO3237.put f3241 ta72 (Or.inl (by decide))
                have hM3253 : NmM I3239 R0 L3127 a1 gQ := NmM.kp1 hM3238 f3241 ta72 rfl rfl hS3225.1 ta1
                refine tr_aload_n dX12_readEvent_151 rfl ?_
                refine tr_getR dX12_readEvent_152 fl12_188 (kR15 hS3240.1 ta0) d2 ?_
                refine tr_dup dX12_readEvent_155 rfl ?_
                refine q_getI dX12_readEvent_156 fl12_265 (kR14 hS3240.1 ta1) c3243 ?_
                refine q_iconst dX12_readEvent_159 (by decide) ?_
                intro v3254 h3255
                refine q_iaddE dX12_readEvent_160 (by intros; omega) ?_
                intro v3256 h3257
                refine q_putX dX12_readEvent_161 fl12_265 (kR14 hS3240.1 ta1) (Or.inl rfl) hS3240 ta1 (by decide +kernel) (hS3240.1.putE (i := v37.toNatClampNeg) ta1 d67 d69 (by rw [c3243]; exact (ti_nat (by omega)).symm) (by rw [c3243]; omega) (by omega) (by rw [c3250, c3251]; omega)) ?_
                intro I3258 hS3259 e3260 f3261
                have c3262 : I3258 a0 13 = v3162 := (f3261 _ _ (fun q => absurd q.2 (by decide))).trans c3244
                have c3263 : I3258 a0 9 = v3164 := (f3261 _ _ (fun q => absurd q.2 (by decide))).trans c3245
                have c3264 : I3258 a0 10 = v3167 := (f3261 _ _ (fun q => absurd q.2 (by decide))).trans c3246
                have c3265 : I3258 a0 11 = v3170 := (f3261 _ _ (fun q => absurd q.2 (by decide))).trans c3247
                have c3266 : I3258 a0 12 = v3174 := (f3261 _ _ (fun q => absurd q.2 (by decide))).trans c3248
                have c3267 : I3258 a0 8 = v3176 := (f3261 _ _ (fun q => absurd q.2 (by decide))).trans c3249
                have c3268 : I3258 a66 v37.toNatClampNeg = x1 := (f3261 _ _ (fun q => by have z := ta66; rw [q.1, ta1] at z; exact absurd z (by decide))).trans c3250
                have c3269 : I3258 a68 v37.toNatClampNeg = v3117 := (f3261 _ _ (fun q => by have z := ta68; rw [q.1, ta1] at z; exact absurd z (by decide))).trans c3251
                have hO3270 : FrO 14 a1 T I0 I3258 := hO3252.put f3261 ta1 (Or.inr rfl)
                have hM3271 : NmM I3258 R0 L3127 a1 gQ := NmM.kp1 hM3253 f3261 ta1 rfl rfl hS3240.1 ta1
                have eF := hF.eq
                have eP := hP.eq
                have es3272 := evS_c4 (B := gB) (Q := gQ) (k := srt gB gs) (s := (tkN gB gs)) (by omega)
                obtain ⟨v3273, c3274⟩ : ∃ v, I3258 a0 14 = v := ⟨_, rfl⟩
                exact tr_vret hZ dX12_readEvent_164 rfl (by decide) (by decide) ⟨rfl, rfl, rfl, rfl, rfl, hS3259, (fun b hb => (Option.some.inj (d2.symm.trans hb)) ▸ ((((((((FrM.rf (R := R0) (b := a1) (T := T)).st g3051 (by decide +kernel)).st g3128 (by decide +kernel)).pu f3196 (by decide) (by decide) d67).pu f3213 (by decide) (by decide) d69).pu f3226 (by decide) (by decide) d71).pu f3241 (by decide) (by decide) d73).put f3261 ta1 (by decide))), (fun dr hd => (Option.some.inj (d2.symm.trans hd)) ▸ hO3270), (Or.inl ⟨(by (try rw [w3101]); (try rw [es3272]); first | done | with_reducible assumption | omega), (fun q0 z0 => by obtain rfl := Option.some.inj ((d2).symm.trans z0); (try rw [w3101]); (try rw [es3272]); (try rw [((hS3259.cell ta1 (by decide +kernel)).trans c30)]); first | done | with_reducible assumption | omega), (fun q0 z0 => by obtain rfl := Option.some.inj ((d2).symm.trans z0); (try rw [w3101]); (try rw [es3272]); (try rw [((hS3259.cell ta1 (by decide +kernel)).trans c34)]); first | done | with_reducible assumption | omega), (fun q0 z0 => by obtain rfl := Option.some.inj ((d2).symm.trans z0); (try rw [w3101]); (try rw [es3272]); (try rw [e3260]); first | done | with_reducible assumption | omega), (fun q0 z0 => by obtain rfl := Option.some.inj ((d2).symm.trans z0); (try rw [w3101]); (try rw [es3272]); (try rw [((hS3259.cell ta1 (by decide +kernel)).trans c42)]); first | done | with_reducible assumption | omega), (fun q0 z0 => by obtain rfl := Option.some.inj ((d2).symm.trans z0); (try rw [w3101]); (try rw [es3272]); (try rw [((hS3259.cell ta1 (by decide +kernel)).trans c46)]); first | done | with_reducible assumption | omega), (fun q0 z0 => by obtain rfl := Option.some.inj ((d2).symm.trans z0); (try rw [w3101]); (try rw [es3272]); (try rw [((hS3259.cell ta1 (by decide +kernel)).trans c50)]); first | done | with_reducible assumption | omega), (fun q0 z0 => by obtain rfl := Option.some.inj ((d2).symm.trans z0); (try rw [w3101]); (try rw [es3272]); (try rw [((hS3259.cell ta1 (by decide +kernel)).trans c54)]); first | done | with_reducible assumption | omega), (fun q0 z0 => by obtain rfl := Option.some.inj ((d2).symm.trans z0); (try rw [w3101]); (try rw [es3272]); (try rw [((hS3259.cell ta1 (by decide +kernel)).trans c58)]); first | done | with_reducible assumption | omega), (by (try rw [w3101]); (try rw [es3272]); (try rw [c3262]); (try rw [c65]); first | done | with_reducible assumption | omega), (by (try rw [w3101]); (try rw [es3272]); (try rw [c3263]); first | done | with_reducible assumption | omega), (by (try rw [w3101]); (try rw [es3272]); (try rw [c3263]); first | done | with_reducible assumption | omega), (by (try rw [w3101]); (try rw [es3272]); (try rw [c3264]); first | done | with_reducible assumption | omega), (by (try rw [w3101]); (try rw [es3272]); (try rw [c3265]); first | done | with_reducible assumption | omega), (by (try rw [w3101]); (try rw [es3272]); (try rw [c3173]); first | done | assumption), (by (try rw [w3101]); (try rw [es3272]); (try rw [c3266]); first | done | assumption), (by (try rw [w3101]); (try rw [es3272]); (try rw [c3267]); first | done | assumption), hL3160, (fun b hb => (Option.some.inj (d2.symm.trans hb)) ▸ NmM.ln (NmM.bd (k := srt gB gs) hM3271 (by omega) (by omega)) rfl), (fun E b hb hE => by obtain rfl := Option.some.inj (d2.symm.trans hb); exact AlM.ev hE hW0 ta1 (by omega) (by omega) (by omega) (by omega) (hS3259.cell ta1 (by decide +kernel)) (RoF.st (ex := xr 54 57) hS3259 (by decide +kernel)) (fun f hf => match f, hf with | 0, _ => (fun a ha => by obtain rfl := Option.some.inj (d67.symm.trans ha); have zi : v37.toNatClampNeg = (gQ 2).toNat := congrArg Int.toNat (by omega); have ze := (Eq.trans ((f3261 _ _ (fun q => by have z := ta66; rw [q.1, ta1] at z; exact absurd z (by decide))).trans ((f3241 _ _ (fun q => by have z := ta66; rw [q.1, ta72] at z; exact absurd z (by decide))).trans ((f3226 _ _ (fun q => by have z := ta66; rw [q.1, ta70] at z; exact absurd z (by decide))).trans (f3213 _ _ (fun q => by have z := ta66; rw [q.1, ta68] at z; exact absurd z (by decide)))))) e3195); rw [zi] at ze; exact ⟨by rw [ze]; simp only [evD, ↓reduceIte]; repeat' (first | split | omega), fun j hj => ((f3261 _ _ (fun q => by have z := ta66; rw [q.1, ta1] at z; exact absurd z (by decide))).trans ((f3241 _ _ (fun q => by have z := ta66; rw [q.1, ta72] at z; exact absurd z (by decide))).trans ((f3226 _ _ (fun q => by have z := ta66; rw [q.1, ta70] at z; exact absurd z (by decide))).trans ((f3213 _ _ (fun q => by have z := ta66; rw [q.1, ta68] at z; exact absurd z (by decide))).trans ((f3196 _ _ (fun q => hj (q.2.trans zi))).trans ((g3128.cell ta66 (wm_no (by decide +kernel))).trans (g3051.cell ta66 (wm_no (by decide +kernel)))))))))⟩) | 1, _ => (fun a ha => by obtain rfl := Option.some.inj (d69.symm.trans ha); have zi : v37.toNatClampNeg = (gQ 2).toNat := congrArg Int.toNat (by omega); have ze := (Eq.trans ((f3261 _ _ (fun q => by have z := ta68; rw [q.1, ta1] at z; exact absurd z (by decide))).trans ((f3241 _ _ (fun q => by have z := ta68; rw [q.1, ta72] at z; exact absurd z (by decide))).trans (f3226 _ _ (fun q => by have z := ta68; rw [q.1, ta70] at z; exact absurd z (by decide))))) e3212); rw [zi] at ze; exact ⟨by rw [ze]; simp only [evD, ↓reduceIte]; repeat' (first | split | omega), fun j hj => ((f3261 _ _ (fun q => by have z := ta68; rw [q.1, ta1] at z; exact absurd z (by decide))).trans ((f3241 _ _ (fun q => by have z := ta68; rw [q.1, ta72] at z; exact absurd z (by decide))).trans ((f3226 _ _ (fun q => by have z := ta68; rw [q.1, ta70] at z; exact absurd z (by decide))).trans ((f3213 _ _ (fun q => hj (q.2.trans zi))).trans ((f3196 _ _ (fun q => by have z := ta68; rw [q.1, ta66] at z; exact absurd z (by decide))).trans ((g3128.cell ta68 (wm_no (by decide +kernel))).trans (g3051.cell ta68 (wm_no (by decide +kernel)))))))))⟩) | 2, _ => (fun a ha => by obtain rfl := Option.some.inj (d71.symm.trans ha); have zi : v37.toNatClampNeg = (gQ 2).toNat := congrArg Int.toNat (by omega); have ze := (Eq.trans ((f3261 _ _ (fun q => by have z := ta70; rw [q.1, ta1] at z; exact absurd z (by decide))).trans (f3241 _ _ (fun q => by have z := ta70; rw [q.1, ta72] at z; exact absurd z (by decide)))) e3227); rw [zi] at ze; exact ⟨by rw [ze]; simp only [evD, ↓reduceIte]; repeat' (first | split | omega), fun j hj => ((f3261 _ _ (fun q => by have z := ta70; rw [q.1, ta1] at z; exact absurd z (by decide))).trans ((f3241 _ _ (fun q => by have z := ta70; rw [q.1, ta72] at z; exact absurd z (by decide))).trans ((f3226 _ _ (fun q => hj (q.2.trans zi))).trans ((f3213 _ _ (fun q => by have z := ta70; rw [q.1, ta68] at z; exact absurd z (by decide))).trans ((f3196 _ _ (fun q => by have z := ta70; rw [q.1, ta66] at z; exact absurd z (by decide))).trans ((g3128.cell ta70 (wm_no (by decide +kernel))).trans (g3051.cell ta70 (wm_no (by decide +kernel)))))))))⟩) | 3, _ => (fun a ha => by obtain rfl := Option.some.inj (d73.symm.trans ha); have zi : v37.toNatClampNeg = (gQ 2).toNat := congrArg Int.toNat (by omega); have ze := (Eq.trans (f3261 _ _ (fun q => by have z := ta72; rw [q.1, ta1] at z; exact absurd z (by decide))) e3242); rw [zi] at ze; exact ⟨by rw [ze]; simp only [evD, ↓reduceIte]; repeat' (first | split | omega), fun j hj => ((f3261 _ _ (fun q => by have z := ta72; rw [q.1, ta1] at z; exact absurd z (by decide))).trans ((f3241 _ _ (fun q => hj (q.2.trans zi))).trans ((f3226 _ _ (fun q => by have z := ta72; rw [q.1, ta70] at z; exact absurd z (by decide))).trans ((f3213 _ _ (fun q => by have z := ta72; rw [q.1, ta68] at z; exact absurd z (by decide))).trans ((f3196 _ _ (fun q => by have z := ta72; rw [q.1, ta66] at z; exact absurd z (by decide))).trans ((g3128.cell ta72 (wm_no (by decide +kernel))).trans (g3051.cell ta72 (wm_no (by decide +kernel)))))))))⟩) | f + 4, h => absurd h (by omega))), trivial⟩), trivial⟩
              · skip
                exfalso; omega
          · skip
            obtain ⟨v3275, c3276⟩ : ∃ v, I3125 a0 9 = v := ⟨_, rfl⟩
            have b3277 := iv15_9 hS3133.1 ta0 c3276
            rw [c3276] at p3151
            obtain ⟨v3278, c3279⟩ : ∃ v, I3125 a0 13 = v := ⟨_, rfl⟩
            rw [c3279] at p3152
            obtain ⟨v3280, c3281⟩ : ∃ v, I3125 a0 14 = v := ⟨_, rfl⟩
            rw [c3281] at p3153
            replace hF := hF.pos (by omega)
            replace hP := hP.pos (by omega)
            refine tr_istore_n dX12_readEvent_57 (by decide) (by decide) ?_
            refine tr_iload_n dX12_readEvent_58 rfl ?_
            refine q_iconst dX12_readEvent_59 (by decide) ?_
            intro v3282 h3283
            refine q_icmp_ne 69 dX12_readEvent_60 (by decide) (fun h3284 => ?_) (fun h3284 => ?_)
            · skip
              exfalso; omega
            · skip
              refine tr_iload_n dX12_readEvent_63 rfl ?_
              refine q_iconst dX12_readEvent_64 (by decide) ?_
              intro v3285 h3286
              refine q_iaddE dX12_readEvent_65 (by intros; omega) ?_
              intro v3287 h3288
              refine tr_goto 86 dX12_readEvent_66 (by decide) ?_
              refine tr_istore dX12_readEvent_86 (by decide) (by decide) ?_
              refine tr_aload_n dX12_readEvent_88 rfl ?_
              refine q_getI dX12_readEvent_89 fl12_99 (kR15 hS3133.1 ta0) c3276 ?_
              refine q_iconst dX12_readEvent_92 (by decide) ?_
              intro v3289 h3290
              refine q_icmp_ne 97 dX12_readEvent_93 (by decide) (fun h3291 => ?_) (fun h3291 => ?_)
              · skip
                exfalso; omega
              · skip
                have eF := hF.eq
                have eP := hP.eq
                obtain ⟨v3292, c3293⟩ : ∃ v, I3125 a0 10 = v := ⟨_, rfl⟩
                have b3294 := iv15_10 hS3133.1 ta0 c3293
                obtain ⟨v3295, c3296⟩ : ∃ v, I3125 a0 11 = v := ⟨_, rfl⟩
                obtain ⟨y3297, c3298⟩ : ∃ v, L3127 a0 15 = v := ⟨_, rfl⟩
                obtain ⟨v3299, c3300⟩ : ∃ v, I3125 a0 12 = v := ⟨_, rfl⟩
                obtain ⟨v3301, c3302⟩ : ∃ v, I3125 a0 8 = v := ⟨_, rfl⟩
                have b3303 := iv15_8 hS3133.1 ta0 c3302
                exact tr_vret hZ dX12_readEvent_96 rfl (by decide) (by decide) ⟨rfl, rfl, rfl, rfl, rfl, hS3133, (fun b hb => (Option.some.inj (d2.symm.trans hb)) ▸ (((FrM.rf (R := R0) (b := a1) (T := T)).st g3051 (by decide +kernel)).st g3128 (by decide +kernel))), (fun dr hd => (Option.some.inj (d2.symm.trans hd)) ▸ hO3135), (Or.inr (⟨(by (try rw [w3101]); first | done | with_reducible assumption | omega), (by (try rw [w3101]); (try rw [c3276]); first | done | with_reducible assumption | omega), (by (try rw [w3101]); (try rw [c3279]); first | done | with_reducible assumption | omega), (by (try rw [w3101]); (try rw [c3281]); first | done | with_reducible assumption | omega), trivial⟩)), trivial⟩
          · skip
            obtain ⟨v3304, c3305⟩ : ∃ v, I3125 a0 9 = v := ⟨_, rfl⟩
            have b3306 := iv15_9 hS3133.1 ta0 c3305
            rw [c3305] at p3157
            obtain ⟨v3307, c3308⟩ : ∃ v, I3125 a0 13 = v := ⟨_, rfl⟩
            rw [c3308] at p3158
            obtain ⟨v3309, c3310⟩ : ∃ v, I3125 a0 14 = v := ⟨_, rfl⟩
            rw [c3310] at p3159
            replace hF := hF.neg (by omega)
            replace hP := hP.neg (by omega)
            replace hF := hF.pos (by omega)
            replace hP := hP.pos (by omega)
            refine tr_istore_n dX12_readEvent_57 (by decide) (by decide) ?_
            refine tr_iload_n dX12_readEvent_58 rfl ?_
            refine q_iconst dX12_readEvent_59 (by decide) ?_
            intro v3311 h3312
            refine q_icmp_ne 69 dX12_readEvent_60 (by decide) (fun h3313 => ?_) (fun h3313 => ?_)
            · skip
              exfalso; omega
            · skip
              refine tr_iload_n dX12_readEvent_63 rfl ?_
              refine q_iconst dX12_readEvent_64 (by decide) ?_
              intro v3314 h3315
              refine q_iaddE dX12_readEvent_65 (by intros; omega) ?_
              intro v3316 h3317
              refine tr_goto 86 dX12_readEvent_66 (by decide) ?_
              refine tr_istore dX12_readEvent_86 (by decide) (by decide) ?_
              refine tr_aload_n dX12_readEvent_88 rfl ?_
              refine q_getI dX12_readEvent_89 fl12_99 (kR15 hS3133.1 ta0) c3305 ?_
              refine q_iconst dX12_readEvent_92 (by decide) ?_
              intro v3318 h3319
              refine q_icmp_ne 97 dX12_readEvent_93 (by decide) (fun h3320 => ?_) (fun h3320 => ?_)
              · skip
                exfalso; omega
              · skip
                have eF := hF.eq
                have eP := hP.eq
                obtain ⟨v3321, c3322⟩ : ∃ v, I3125 a0 10 = v := ⟨_, rfl⟩
                have b3323 := iv15_10 hS3133.1 ta0 c3322
                obtain ⟨v3324, c3325⟩ : ∃ v, I3125 a0 11 = v := ⟨_, rfl⟩
                obtain ⟨y3326, c3327⟩ : ∃ v, L3127 a0 15 = v := ⟨_, rfl⟩
                obtain ⟨v3328, c3329⟩ : ∃ v, I3125 a0 12 = v := ⟨_, rfl⟩
                obtain ⟨v3330, c3331⟩ : ∃ v, I3125 a0 8 = v := ⟨_, rfl⟩
                have b3332 := iv15_8 hS3133.1 ta0 c3331
                exact tr_vret hZ dX12_readEvent_96 rfl (by decide) (by decide) ⟨rfl, rfl, rfl, rfl, rfl, hS3133, (fun b hb => (Option.some.inj (d2.symm.trans hb)) ▸ (((FrM.rf (R := R0) (b := a1) (T := T)).st g3051 (by decide +kernel)).st g3128 (by decide +kernel))), (fun dr hd => (Option.some.inj (d2.symm.trans hd)) ▸ hO3135), (Or.inr (⟨(by (try rw [w3101]); first | done | with_reducible assumption | omega), (by (try rw [w3101]); (try rw [c3305]); first | done | with_reducible assumption | omega), (by (try rw [w3101]); (try rw [c3308]); first | done | with_reducible assumption | omega), (by (try rw [w3101]); (try rw [c3310]); first | done | with_reducible assumption | omega), trivial⟩)), trivial⟩
        · skip
          exfalso; omega
    · skip
      obtain ⟨v3333, c3334⟩ : ∃ v, I3048 a0 9 = v := ⟨_, rfl⟩
      have b3335 := iv15_9 hS3056.1 ta0 c3334
      rw [c3334] at p3071
      obtain ⟨v3336, c3337⟩ : ∃ v, I3048 a0 13 = v := ⟨_, rfl⟩
      rw [c3337] at p3072
      obtain ⟨v3338, c3339⟩ : ∃ v, I3048 a0 14 = v := ⟨_, rfl⟩
      rw [c3339] at p3073
      have p3340 := p61
      unfold Q7M at p3340
      replace hF := hF.pos (by omega)
      replace hP := hP.pos (by omega)
      clear p3340
      refine tr_iload_n dX12_readEvent_13 rfl ?_
      refine q_iconst dX12_readEvent_14 (by decide) ?_
      intro v3341 h3342
      refine q_icmp_eq 23 dX12_readEvent_15 (by decide) (fun h3343 => ?_) (fun h3343 => ?_)
      · skip
        exfalso; omega
      · skip
        refine tr_iload_n dX12_readEvent_18 rfl ?_
        refine q_iconst dX12_readEvent_19 (by decide) ?_
        intro v3344 h3345
        refine q_icmp_ne 40 dX12_readEvent_20 (by decide) (fun h3346 => ?_) (fun h3346 => ?_)
        · skip
          refine q_bipush dX12_readEvent_40 (by decide +kernel) ?_
          intro v3347 h3348
          refine tr_istore_n dX12_readEvent_42 (by decide) (by decide) ?_
          refine tr_aload_n dX12_readEvent_43 rfl ?_
          refine q_iconst dX12_readEvent_44 (by decide) ?_
          intro v3349 h3350
          refine tr_aload_n dX12_readEvent_45 rfl ?_
          refine tr_getR dX12_readEvent_46 fl12_188 (kR15 hS3056.1 ta0) d2 ?_
          refine q_getI dX12_readEvent_49 fl12_192 (kR14 hS3056.1 ta1) ((hS3056.cell ta1 (by decide +kernel)).trans c30) ?_
          refine q_iconst dX12_readEvent_52 (by decide) ?_
          intro v3351 h3352
          refine q_isubE dX12_readEvent_53 (by intros; omega) ?_
          intro v3353 h3354
          refine q_callVi hE (M' := mX12_readWhole) (as := [_, _]) dX12_readEvent_54 lk12_161 inX12_readWhole seX12_readWhole myX12_readWhole (by decide) ⟨by decide, by decide⟩ rfl (kR15 hS3056.1 ta0) (Nat.le_of_ble_eq_true rfl) rfl rfl (by decide) (by decide) (k_X12_readWhole hS3056.1 ta0) ?_
          rintro v3359 cn' K' N' I3355 R3356 L3357 ⟨rfl, rfl, rfl, rfl, g3358, p3360, w3361, -⟩
          have hS3362 := hS3056.tr g3358 (by decide +kernel) (by decide +kernel)
          have c3363 : I3355 a1 2 = v37 := (g3358.cell ta1 (by decide +kernel)).trans c3057
          have b3364 : 0 ≤ v3359.toInt ∧ v3359.toInt ≤ 239 := by omega
          clear p3360
          have hO3365 : FrO 14 a1 T I0 I3355 := hO3058.st g3358 (by decide +kernel)
          have ov3366 := w3361.over (by rw [c3334]; omega)
          obtain ⟨v3367, c3368⟩ : ∃ v, I3355 a0 9 = v := ⟨_, rfl⟩
          have b3369 := iv15_9 hS3362.1 ta0 c3368
          obtain ⟨v3370, c3371⟩ : ∃ v, I3355 a0 13 = v := ⟨_, rfl⟩
          obtain ⟨v3372, c3373⟩ : ∃ v, I3355 a0 14 = v := ⟨_, rfl⟩
          (try rw [c3368] at ov3366)
          (try rw [c3371] at ov3366)
          (try rw [c3373] at ov3366)
          (try rw [c3334] at ov3366)
          (try rw [c3337] at ov3366)
          (try rw [c3339] at ov3366)
          refine tr_istore_n dX12_readEvent_57 (by decide) (by decide) ?_
          refine tr_iload_n dX12_readEvent_58 rfl ?_
          refine q_iconst dX12_readEvent_59 (by decide) ?_
          intro v3374 h3375
          refine q_icmp_ne 69 dX12_readEvent_60 (by decide) (fun h3376 => ?_) (fun h3376 => ?_)
          · skip
            exfalso; omega
          · skip
            refine tr_iload_n dX12_readEvent_63 rfl ?_
            refine q_iconst dX12_readEvent_64 (by decide) ?_
            intro v3377 h3378
            refine q_iaddE dX12_readEvent_65 (by intros; omega) ?_
            intro v3379 h3380
            refine tr_goto 86 dX12_readEvent_66 (by decide) ?_
            refine tr_istore dX12_readEvent_86 (by decide) (by decide) ?_
            refine tr_aload_n dX12_readEvent_88 rfl ?_
            refine q_getI dX12_readEvent_89 fl12_99 (kR15 hS3362.1 ta0) c3368 ?_
            refine q_iconst dX12_readEvent_92 (by decide) ?_
            intro v3381 h3382
            refine q_icmp_ne 97 dX12_readEvent_93 (by decide) (fun h3383 => ?_) (fun h3383 => ?_)
            · skip
              exfalso; omega
            · skip
              have eF := hF.eq
              have eP := hP.eq
              obtain ⟨v3384, c3385⟩ : ∃ v, I3355 a0 10 = v := ⟨_, rfl⟩
              have b3386 := iv15_10 hS3362.1 ta0 c3385
              obtain ⟨v3387, c3388⟩ : ∃ v, I3355 a0 11 = v := ⟨_, rfl⟩
              obtain ⟨y3389, c3390⟩ : ∃ v, L3357 a0 15 = v := ⟨_, rfl⟩
              obtain ⟨v3391, c3392⟩ : ∃ v, I3355 a0 12 = v := ⟨_, rfl⟩
              obtain ⟨v3393, c3394⟩ : ∃ v, I3355 a0 8 = v := ⟨_, rfl⟩
              have b3395 := iv15_8 hS3362.1 ta0 c3394
              exact tr_vret hZ dX12_readEvent_96 rfl (by decide) (by decide) ⟨rfl, rfl, rfl, rfl, rfl, hS3362, (fun b hb => (Option.some.inj (d2.symm.trans hb)) ▸ (((FrM.rf (R := R0) (b := a1) (T := T)).st g3051 (by decide +kernel)).st g3358 (by decide +kernel))), (fun dr hd => (Option.some.inj (d2.symm.trans hd)) ▸ hO3365), (Or.inr (⟨(by first | done | with_reducible assumption | omega), (by (try rw [c3368]); first | done | with_reducible assumption | omega), (by (try rw [c3371]); first | done | with_reducible assumption | omega), (by (try rw [c3373]); first | done | with_reducible assumption | omega), trivial⟩)), trivial⟩
        · skip
          exfalso; omega
    · skip
      obtain ⟨v3396, c3397⟩ : ∃ v, I3048 a0 9 = v := ⟨_, rfl⟩
      have b3398 := iv15_9 hS3056.1 ta0 c3397
      rw [c3397] at p3076
      obtain ⟨v3399, c3400⟩ : ∃ v, I3048 a0 13 = v := ⟨_, rfl⟩
      rw [c3400] at p3077
      obtain ⟨v3401, c3402⟩ : ∃ v, I3048 a0 14 = v := ⟨_, rfl⟩
      rw [c3402] at p3078
      have p3403 := p61
      unfold Q7M at p3403
      replace hF := hF.neg (by omega)
      replace hP := hP.neg (by omega)
      replace hF := hF.pos (by omega)
      replace hP := hP.pos (by omega)
      clear p3403
      refine tr_iload_n dX12_readEvent_13 rfl ?_
      refine q_iconst dX12_readEvent_14 (by decide) ?_
      intro v3404 h3405
      refine q_icmp_eq 23 dX12_readEvent_15 (by decide) (fun h3406 => ?_) (fun h3406 => ?_)
      · skip
        exfalso; omega
      · skip
        refine tr_iload_n dX12_readEvent_18 rfl ?_
        refine q_iconst dX12_readEvent_19 (by decide) ?_
        intro v3407 h3408
        refine q_icmp_ne 40 dX12_readEvent_20 (by decide) (fun h3409 => ?_) (fun h3409 => ?_)
        · skip
          refine q_bipush dX12_readEvent_40 (by decide +kernel) ?_
          intro v3410 h3411
          refine tr_istore_n dX12_readEvent_42 (by decide) (by decide) ?_
          refine tr_aload_n dX12_readEvent_43 rfl ?_
          refine q_iconst dX12_readEvent_44 (by decide) ?_
          intro v3412 h3413
          refine tr_aload_n dX12_readEvent_45 rfl ?_
          refine tr_getR dX12_readEvent_46 fl12_188 (kR15 hS3056.1 ta0) d2 ?_
          refine q_getI dX12_readEvent_49 fl12_192 (kR14 hS3056.1 ta1) ((hS3056.cell ta1 (by decide +kernel)).trans c30) ?_
          refine q_iconst dX12_readEvent_52 (by decide) ?_
          intro v3414 h3415
          refine q_isubE dX12_readEvent_53 (by intros; omega) ?_
          intro v3416 h3417
          refine q_callVi hE (M' := mX12_readWhole) (as := [_, _]) dX12_readEvent_54 lk12_161 inX12_readWhole seX12_readWhole myX12_readWhole (by decide) ⟨by decide, by decide⟩ rfl (kR15 hS3056.1 ta0) (Nat.le_of_ble_eq_true rfl) rfl rfl (by decide) (by decide) (k_X12_readWhole hS3056.1 ta0) ?_
          rintro v3422 cn' K' N' I3418 R3419 L3420 ⟨rfl, rfl, rfl, rfl, g3421, p3423, w3424, -⟩
          have hS3425 := hS3056.tr g3421 (by decide +kernel) (by decide +kernel)
          have c3426 : I3418 a1 2 = v37 := (g3421.cell ta1 (by decide +kernel)).trans c3057
          have b3427 : 0 ≤ v3422.toInt ∧ v3422.toInt ≤ 0 := by omega
          clear p3423
          have hO3428 : FrO 14 a1 T I0 I3418 := hO3058.st g3421 (by decide +kernel)
          have ov3429 := w3424.over (by rw [c3397]; omega)
          obtain ⟨v3430, c3431⟩ : ∃ v, I3418 a0 9 = v := ⟨_, rfl⟩
          have b3432 := iv15_9 hS3425.1 ta0 c3431
          obtain ⟨v3433, c3434⟩ : ∃ v, I3418 a0 13 = v := ⟨_, rfl⟩
          obtain ⟨v3435, c3436⟩ : ∃ v, I3418 a0 14 = v := ⟨_, rfl⟩
          (try rw [c3431] at ov3429)
          (try rw [c3434] at ov3429)
          (try rw [c3436] at ov3429)
          (try rw [c3397] at ov3429)
          (try rw [c3400] at ov3429)
          (try rw [c3402] at ov3429)
          refine tr_istore_n dX12_readEvent_57 (by decide) (by decide) ?_
          refine tr_iload_n dX12_readEvent_58 rfl ?_
          refine q_iconst dX12_readEvent_59 (by decide) ?_
          intro v3437 h3438
          refine q_icmp_ne 69 dX12_readEvent_60 (by decide) (fun h3439 => ?_) (fun h3439 => ?_)
          · skip
            exfalso; omega
          · skip
            refine tr_iload_n dX12_readEvent_63 rfl ?_
            refine q_iconst dX12_readEvent_64 (by decide) ?_
            intro v3440 h3441
            refine q_iaddE dX12_readEvent_65 (by intros; omega) ?_
            intro v3442 h3443
            refine tr_goto 86 dX12_readEvent_66 (by decide) ?_
            refine tr_istore dX12_readEvent_86 (by decide) (by decide) ?_
            refine tr_aload_n dX12_readEvent_88 rfl ?_
            refine q_getI dX12_readEvent_89 fl12_99 (kR15 hS3425.1 ta0) c3431 ?_
            refine q_iconst dX12_readEvent_92 (by decide) ?_
            intro v3444 h3445
            refine q_icmp_ne 97 dX12_readEvent_93 (by decide) (fun h3446 => ?_) (fun h3446 => ?_)
            · skip
              exfalso; omega
            · skip
              have eF := hF.eq
              have eP := hP.eq
              obtain ⟨v3447, c3448⟩ : ∃ v, I3418 a0 10 = v := ⟨_, rfl⟩
              have b3449 := iv15_10 hS3425.1 ta0 c3448
              obtain ⟨v3450, c3451⟩ : ∃ v, I3418 a0 11 = v := ⟨_, rfl⟩
              obtain ⟨y3452, c3453⟩ : ∃ v, L3420 a0 15 = v := ⟨_, rfl⟩
              obtain ⟨v3454, c3455⟩ : ∃ v, I3418 a0 12 = v := ⟨_, rfl⟩
              obtain ⟨v3456, c3457⟩ : ∃ v, I3418 a0 8 = v := ⟨_, rfl⟩
              have b3458 := iv15_8 hS3425.1 ta0 c3457
              exact tr_vret hZ dX12_readEvent_96 rfl (by decide) (by decide) ⟨rfl, rfl, rfl, rfl, rfl, hS3425, (fun b hb => (Option.some.inj (d2.symm.trans hb)) ▸ (((FrM.rf (R := R0) (b := a1) (T := T)).st g3051 (by decide +kernel)).st g3421 (by decide +kernel))), (fun dr hd => (Option.some.inj (d2.symm.trans hd)) ▸ hO3428), (Or.inr (⟨(by first | done | with_reducible assumption | omega), (by (try rw [c3431]); first | done | with_reducible assumption | omega), (by (try rw [c3434]); first | done | with_reducible assumption | omega), (by (try rw [c3436]); first | done | with_reducible assumption | omega), trivial⟩)), trivial⟩
        · skip
          exfalso; omega
def wik_X12_readCheese : List Nat := [899, 903, 968, 969, 970, 971, 972, 973, 974, 3775, 4031, 4799, 4863]
def wrk_X12_readCheese : List Nat := []
def wlk_X12_readCheese : List Nat := [975, 4735]
set_option maxHeartbeats 4000000 in
theorem fk_X12_readCheese {l : Launch} {T : Nat → Nat} {cn : Nat} {K N : Nat → Nat} {I0 : cz_I} {R0 : cz_R} {L0 : cz_L} (hW0 : Wf T cn K N I0 R0 0) (gB : cz_B) (gs : Int) (gQ : Nat → Int) {a0 : Nat} (ta0 : T a0 = 15) (hT : ∀ t, R0 a0 5 = some t → Tx I0 t gB) (hN : ∀ b, R0 a0 4 = some b → NmM I0 R0 L0 b gQ) (pre0 : (I0 a0 9).toInt = (tkM gB gs)) (pre1 : (I0 a0 9).toInt ≤ 4) (pre2 : (I0 a0 10).toInt = (tkS gB gs)) (pre3 : (I0 a0 11).toInt = (tkG gB gs)) (pre4 : (AtW ((tkK gB gs)) ((L0 a0 15).toInt) ((tkW gB gs)))) (pre5 : (AtV ((tkK gB gs)) ((I0 a0 12).toInt) ((tkV gB gs)))) (pre6 : (AtN ((tkK gB gs)) ((I0 a0 8).toInt) ((tkN gB gs)))) (pre7 : (I0 a0 7).toInt = (gB.2)) (pre8 : ∀ b1, R0 a0 4 = some b1 → (I0 b1 0).toInt = (gQ 0)) (pre9 : ∀ b1, R0 a0 4 = some b1 → (I0 b1 1).toInt = (gQ 1)) (pre10 : ∀ b1, R0 a0 4 = some b1 → (I0 b1 2).toInt = (gQ 2)) (pre11 : ∀ b1, R0 a0 4 = some b1 → (I0 b1 3).toInt = (gQ 3)) (pre12 : ∀ b1, R0 a0 4 = some b1 → (I0 b1 4).toInt = (gQ 4)) (pre13 : ∀ b1, R0 a0 4 = some b1 → (I0 b1 5).toInt = (gQ 5)) (pre14 : ∀ b1, R0 a0 4 = some b1 → (I0 b1 6).toInt = (gQ 6)) (pre15 : ∀ b1, R0 a0 4 = some b1 → (I0 b1 9).toInt = (gQ 8)) (pre16 : (Q7M ((gQ 0)) ((gQ 7)))) (pre17 : (tkK gB gs) = 1) (pre18 : (srt gB gs) = 5) (nn4 : ∃ b, R0 a0 4 = some b) : ConE l mX12_readCheese [.ref a0] cn K N I0 R0 L0 (ca_v (fun cn' K' N' I' R' L' => cn = cn' ∧ K = K' ∧ N = N' ∧ R0 = R' ∧ St T cn K N 0 wik_X12_readCheese wrk_X12_readCheese I0 R0 I' R0 ∧ (∀ b, R0 a0 4 = some b → FrM R0 b T I0 I') ∧ (∀ dr, R0 a0 4 = some dr → FrO 14 dr T I0 I') ∧ ((((lnF gB gQ gs) = 0) ∧ (∀ b1, R0 a0 4 = some b1 → (I' b1 0).toInt = (lnQ gB gQ gs 0)) ∧ (∀ b1, R0 a0 4 = some b1 → (I' b1 1).toInt = (lnQ gB gQ gs 1)) ∧ (∀ b1, R0 a0 4 = some b1 → (I' b1 2).toInt = (lnQ gB gQ gs 2)) ∧ (∀ b1, R0 a0 4 = some b1 → (I' b1 3).toInt = (lnQ gB gQ gs 3)) ∧ (∀ b1, R0 a0 4 = some b1 → (I' b1 4).toInt = (lnQ gB gQ gs 4)) ∧ (∀ b1, R0 a0 4 = some b1 → (I' b1 5).toInt = (lnQ gB gQ gs 5)) ∧ (∀ b1, R0 a0 4 = some b1 → (I' b1 6).toInt = (lnQ gB gQ gs 6)) ∧ (∀ b1, R0 a0 4 = some b1 → (I' b1 9).toInt = (lnQ gB gQ gs 8)) ∧ ((I' a0 13).toInt = (I0 a0 13).toInt) ∧ ((I' a0 9).toInt = (tkM gB (lnS gB gQ gs))) ∧ ((I' a0 9).toInt ≤ 4) ∧ ((I' a0 10).toInt = (tkS gB (lnS gB gQ gs))) ∧ ((I' a0 11).toInt = (tkG gB (lnS gB gQ gs))) ∧ ((AtW ((tkK gB (lnS gB gQ gs))) ((L' a0 15).toInt) ((tkW gB (lnS gB gQ gs))))) ∧ ((AtV ((tkK gB (lnS gB gQ gs))) ((I' a0 12).toInt) ((tkV gB (lnS gB gQ gs))))) ∧ ((AtN ((tkK gB (lnS gB gQ gs))) ((I' a0 8).toInt) ((tkN gB (lnS gB gQ gs))))) ∧ LgS T wlk_X12_readCheese L0 L' ∧ (∀ b, R0 a0 4 = some b → NmM I' R0 L' b (lnQ gB gQ gs)) ∧ (∀ E b, R0 a0 4 = some b → AlM I0 R0 b gQ E → AlM I' R0 b (lnQ gB gQ gs) (lnE gB gQ gs E)) ∧ True) ∨ (((lnF gB gQ gs) ≠ 0) ∧ ((I' a0 9).toInt = 5) ∧ ((I' a0 13).toInt = (lnF gB gQ gs)) ∧ ((I' a0 14).toInt = (lnP gB gQ gs)) ∧ True)) ∧ True)) := by
  refine ConE.of (by decide +kernel) rfl (Nat.le_of_ble_eq_true rfl) rfl (fun X hX hZ hE => ?_)
  subst hX
  have hS0 : St T cn K N 0 wik_X12_readCheese wrk_X12_readCheese I0 R0 I0 R0 := St.rf0 hW0
  have hL0 : LgS T wlk_X12_readCheese L0 L0 := LgS.rf0
  obtain ⟨a1, d2⟩ := nn4
  have ta1 : T a1 = 14 := hW0.rsN ta0 rfl d2
  obtain ⟨v3, c4⟩ : ∃ v, I0 a0 9 = v := ⟨_, rfl⟩
  have b5 := iv15_9 hS0.1 ta0 c4
  have p6 := pre0
  rw [c4] at p6
  have p7 := pre1
  rw [c4] at p7
  obtain ⟨v8, c9⟩ : ∃ v, I0 a0 10 = v := ⟨_, rfl⟩
  have b10 := iv15_10 hS0.1 ta0 c9
  have p11 := pre2
  rw [c9] at p11
  obtain ⟨v12, c13⟩ : ∃ v, I0 a0 11 = v := ⟨_, rfl⟩
  have p14 := pre3
  rw [c13] at p14
  obtain ⟨y15, c16⟩ : ∃ v, L0 a0 15 = v := ⟨_, rfl⟩
  have p17 := pre4
  rw [c16] at p17
  obtain ⟨v18, c19⟩ : ∃ v, I0 a0 12 = v := ⟨_, rfl⟩
  have p20 := pre5
  rw [c19] at p20
  obtain ⟨v21, c22⟩ : ∃ v, I0 a0 8 = v := ⟨_, rfl⟩
  have b23 := iv15_8 hS0.1 ta0 c22
  have p24 := pre6
  rw [c22] at p24
  obtain ⟨v25, c26⟩ : ∃ v, I0 a0 7 = v := ⟨_, rfl⟩
  have b27 := iv15_7 hW0 ta0 c26
  have p28 := pre7
  rw [c26] at p28
  obtain ⟨v29, c30⟩ : ∃ v, I0 a1 0 = v := ⟨_, rfl⟩
  have b31 := iv14_0 hW0 ta1 c30
  have p32 := pre8 _ d2
  rw [c30] at p32
  obtain ⟨v33, c34⟩ : ∃ v, I0 a1 1 = v := ⟨_, rfl⟩
  have b35 := iv14_1 hW0 ta1 c34
  have p36 := pre9 _ d2
  rw [c34] at p36
  obtain ⟨v37, c38⟩ : ∃ v, I0 a1 2 = v := ⟨_, rfl⟩
  have b39 := iv14_2 hW0 ta1 c38
  have p40 := pre10 _ d2
  rw [c38] at p40
  obtain ⟨v41, c42⟩ : ∃ v, I0 a1 3 = v := ⟨_, rfl⟩
  have b43 := iv14_3 hS0.1 ta1 c42
  have p44 := pre11 _ d2
  rw [c42] at p44
  obtain ⟨v45, c46⟩ : ∃ v, I0 a1 4 = v := ⟨_, rfl⟩
  have b47 := iv14_4 hW0 ta1 c46
  have p48 := pre12 _ d2
  rw [c46] at p48
  obtain ⟨v49, c50⟩ : ∃ v, I0 a1 5 = v := ⟨_, rfl⟩
  have b51 := iv14_5 hW0 ta1 c50
  have p52 := pre13 _ d2
  rw [c50] at p52
  obtain ⟨v53, c54⟩ : ∃ v, I0 a1 6 = v := ⟨_, rfl⟩
  have b55 := iv14_6 hW0 ta1 c54
  have p56 := pre14 _ d2
  rw [c54] at p56
  obtain ⟨v57, c58⟩ : ∃ v, I0 a1 9 = v := ⟨_, rfl⟩
  have b59 := iv14_9 hW0 ta1 c58
  have p60 := pre15 _ d2
  rw [c58] at p60
  have p61 := pre16
  have p62 := pre17
  have p63 := pre18
  obtain ⟨v64, c65⟩ : ∃ v, I0 a0 13 = v := ⟨_, rfl⟩
  have hM0 := hN _ d2
  have hO0 : FrO 14 a1 T I0 I0 := FrO.rf
  obtain ⟨a66, d67, ta66⟩ := rf14_15 hW0 ta1
  obtain ⟨a68, d69, ta68⟩ := rf14_19 hW0 ta1
  have hF := lnF_ch gB gQ gs
  have hP := lnP_ch gB gQ gs
  replace hF := hF.neg (by omega)
  replace hP := hP.neg (by omega)
  replace hF := hF.neg (by omega)
  replace hP := hP.neg (by omega)
  refine tr_aload_n dX12_readCheese_0 rfl ?_
  refine tr_aload_n dX12_readCheese_1 rfl ?_
  refine tr_getR dX12_readCheese_2 fl12_188 (kR15 hS0.1 ta0) d2 ?_
  refine q_getI dX12_readCheese_5 fl12_224 (kR14 hS0.1 ta1) c42 ?_
  refine q_bipush dX12_readCheese_8 (by decide +kernel) ?_
  intro v70 h71
  refine q_callVv hE (M' := mX12_begins) (as := [_, _]) dX12_readCheese_10 lk12_268 inX12_begins seX12_begins myX12_begins (by decide) ⟨by decide, by decide⟩ rfl (kR15 hS0.1 ta0) (Nat.le_of_ble_eq_true rfl) rfl rfl (by decide) (by decide) (fk_X12_begins hS0.1 (gB) (gs) (gQ) ta0 (TxA.kp hT hS0 ta0 rfl rfl rfl (by decide +kernel) (by decide +kernel)) (by (try rw [c4]); first | done | with_reducible assumption | omega) (by (try rw [c4]); first | done | with_reducible assumption | omega) (by (try rw [c9]); first | done | with_reducible assumption | omega) (by (try rw [c13]); first | done | with_reducible assumption | omega) (by (try rw [c16]); first | done | assumption) (by (try rw [c19]); first | done | assumption) (by (try rw [c22]); first | done | assumption) (by (try rw [c26]); first | done | with_reducible assumption | omega) (fun q0 z0 => by obtain rfl := Option.some.inj ((d2).symm.trans z0); (try rw [c30]); first | done | with_reducible assumption | omega) (by first | done | with_reducible assumption | omega) ⟨_, d2⟩) ?_
  rintro cn' K' N' I72 R73 L74 ⟨rfl, rfl, rfl, rfl, g75, dj78, -⟩
  have hM79 : NmM I72 R0 L0 a1 gQ := NmM.kpS hM0 g75 hS0.1 ta1 (by decide +kernel) (by decide +kernel)
  have hS80 := hS0.tr g75 (by decide +kernel) (by decide +kernel)
  have c81 : I72 a1 3 = v41 := (g75.cell ta1 (by decide +kernel)).trans c42
  have hO82 : FrO 14 a1 T I0 I72 := hO0.st g75 (by decide +kernel)
  rcases dj78 with ⟨p83, p84, p85, p86, p87, p88, p89, p90, p91, p92, gl93, -⟩ | ⟨p94, p95, p96, p97, -⟩ | ⟨p98, p99, p100, p101, p102, -⟩
  · skip
    have hL103 := hL0.tr gl93 (by decide +kernel)
    have hM104 : NmM I72 R0 L74 a1 gQ := NmM.kpL hM79 gl93 hS80.1 ta1 (by decide +kernel)
    obtain ⟨v105, c106⟩ : ∃ v, I72 a0 13 = v := ⟨_, rfl⟩
    rw [c106] at p85
    rw [c65] at p85
    obtain ⟨v107, c108⟩ : ∃ v, I72 a0 9 = v := ⟨_, rfl⟩
    have b109 := iv15_9 hS80.1 ta0 c108
    rw [c108] at p86
    rw [c108] at p87
    obtain ⟨v110, c111⟩ : ∃ v, I72 a0 10 = v := ⟨_, rfl⟩
    have b112 := iv15_10 hS80.1 ta0 c111
    rw [c111] at p88
    obtain ⟨v113, c114⟩ : ∃ v, I72 a0 11 = v := ⟨_, rfl⟩
    rw [c114] at p89
    obtain ⟨y115, c116⟩ : ∃ v, L74 a0 15 = v := ⟨_, rfl⟩
    rw [c116] at p90
    obtain ⟨v117, c118⟩ : ∃ v, I72 a0 12 = v := ⟨_, rfl⟩
    rw [c118] at p91
    obtain ⟨v119, c120⟩ : ∃ v, I72 a0 8 = v := ⟨_, rfl⟩
    have b121 := iv15_8 hS80.1 ta0 c120
    rw [c120] at p92
    have p122 := p61
    unfold Q7M at p122
    replace hF := hF.neg (by omega)
    replace hP := hP.neg (by omega)
    replace hF := hF.neg (by omega)
    replace hP := hP.neg (by omega)
    clear p122
    obtain ⟨w123, w124, w125, w126, w127, w128, w129, w130, w131, w132, w133, w134⟩ := lnl_5 (B := gB) (Q := gQ) (s := gs) (by omega)
    replace hF := hF.to w123 (chF_ch gB gQ (tkN gB gs))
    replace hP := hP.to w124 (chP_ch gB gQ (tkN gB gs))
    refine tr_aload_n dX12_readCheese_13 rfl ?_
    refine q_callVl hE (M' := mX12_readFresh) (as := []) dX12_readCheese_14 lk12_285 inX12_readFresh seX12_readFresh myX12_readFresh (by decide) ⟨by decide, by decide⟩ rfl (kR15 hS80.1 ta0) (Nat.le_of_ble_eq_true rfl) rfl rfl (by decide) (by decide) (fk_X12_readFresh hS80.1 (gB) ((tkN gB gs)) (gQ) ta0 (TxA.kp hT hS80 ta0 rfl rfl rfl (by decide +kernel) (by decide +kernel)) (fun b hb => (Option.some.inj (d2.symm.trans hb)) ▸ hM104) (by (try rw [c108]); first | done | with_reducible assumption | omega) (by (try rw [c108]); first | done | with_reducible assumption | omega) (by (try rw [c111]); first | done | with_reducible assumption | omega) (by (try rw [c114]); first | done | with_reducible assumption | omega) (by (try rw [c116]); first | done | assumption) (by (try rw [c118]); first | done | assumption) (by (try rw [c120]); first | done | assumption) (by (try rw [((hS80.cell ta0 (by decide +kernel)).trans c26)]); first | done | with_reducible assumption | omega) (fun q0 z0 => by obtain rfl := Option.some.inj ((d2).symm.trans z0); (try rw [c81]); first | done | with_reducible assumption | omega) (fun q0 z0 => by obtain rfl := Option.some.inj ((d2).symm.trans z0); (try rw [((hS80.cell ta1 (by decide +kernel)).trans c46)]); first | done | with_reducible assumption | omega) ⟨_, d2⟩) ?_
    rintro y140 cn' K' N' I135 R136 L137 ⟨rfl, rfl, rfl, rfl, g138, dj141, -⟩
    have hM142 : NmM I135 R0 L74 a1 gQ := NmM.kpS hM104 g138 hS80.1 ta1 (by decide +kernel) (by decide +kernel)
    have hS143 := hS80.tr g138 (by decide +kernel) (by decide +kernel)
    have c144 : I135 a1 3 = v41 := (g138.cell ta1 (by decide +kernel)).trans c81
    have hO145 : FrO 14 a1 T I0 I135 := hO82.st g138 (by decide +kernel)
    rcases dj141 with ⟨p146, p147, p148, p149, p150, p151, p152, p153, p154, p155, p156, p157, p158, gl159, -⟩ | ⟨p160, p161, p162, p163, -⟩ | ⟨p164, p165, p166, p167, p168, -⟩
    · skip
      have hL169 := hL103.tr gl159 (by decide +kernel)
      have hM170 : NmM I135 R0 L137 a1 gQ := NmM.kpL hM142 gl159 hS143.1 ta1 (by decide +kernel)
      obtain ⟨v171, c172⟩ : ∃ v, I135 a0 13 = v := ⟨_, rfl⟩
      rw [c172] at p151
      rw [c106] at p151
      obtain ⟨v173, c174⟩ : ∃ v, I135 a0 9 = v := ⟨_, rfl⟩
      have b175 := iv15_9 hS143.1 ta0 c174
      rw [c174] at p152
      rw [c174] at p153
      obtain ⟨v176, c177⟩ : ∃ v, I135 a0 10 = v := ⟨_, rfl⟩
      have b178 := iv15_10 hS143.1 ta0 c177
      rw [c177] at p154
      obtain ⟨v179, c180⟩ : ∃ v, I135 a0 11 = v := ⟨_, rfl⟩
      rw [c180] at p155
      obtain ⟨y181, c182⟩ : ∃ v, L137 a0 15 = v := ⟨_, rfl⟩
      rw [c182] at p156
      obtain ⟨v183, c184⟩ : ∃ v, I135 a0 12 = v := ⟨_, rfl⟩
      rw [c184] at p157
      obtain ⟨v185, c186⟩ : ∃ v, I135 a0 8 = v := ⟨_, rfl⟩
      have b187 := iv15_8 hS143.1 ta0 c186
      rw [c186] at p158
      replace hF := hF.neg (by omega)
      replace hP := hP.neg (by omega)
      replace hF := hF.neg (by omega)
      replace hP := hP.neg (by omega)
      refine tr_lstore_n dX12_readCheese_17 (by decide) (by decide) (by decide) ?_
      refine tr_aload_n dX12_readCheese_18 rfl ?_
      refine tr_ldcwS dX12_readCheese_19 ld12_289 ?_
      refine q_iconst dX12_readCheese_22 (by decide) ?_
      intro v188 h189
      refine tr_aload_n dX12_readCheese_23 rfl ?_
      refine tr_getR dX12_readCheese_24 fl12_188 (kR15 hS143.1 ta0) d2 ?_
      refine q_getI dX12_readCheese_27 fl12_263 (kR14 hS143.1 ta1) ((hS143.cell ta1 (by decide +kernel)).trans c34) ?_
      refine q_iconst dX12_readCheese_30 (by decide) ?_
      intro v190 h191
      refine q_isubE dX12_readCheese_31 (by intros; omega) ?_
      intro v192 h193
      refine q_callVi hE (M' := mX12_readPart) (as := [_, _, _]) dX12_readCheese_32 lk12_249 inX12_readPart seX12_readPart myX12_readPart (by decide) ⟨by decide, by decide⟩ rfl (kR15 hS143.1 ta0) (Nat.le_of_ble_eq_true rfl) rfl rfl (by decide) (by decide) (fk_X12_readPart hS143.1 (gB) ((tkN gB (tkN gB gs))) ta0 (by decide) (TxA.kp hT hS143 ta0 rfl rfl rfl (by decide +kernel) (by decide +kernel)) (by (try rw [c174]); first | done | with_reducible assumption | omega) (by (try rw [c174]); first | done | with_reducible assumption | omega) (by (try rw [c177]); first | done | with_reducible assumption | omega) (by (try rw [c180]); first | done | with_reducible assumption | omega) (by (try rw [c182]); first | done | assumption) (by (try rw [c184]); first | done | assumption) (by (try rw [c186]); first | done | assumption) (by (try rw [((hS143.cell ta0 (by decide +kernel)).trans c26)]); first | done | with_reducible assumption | omega)) ?_
      rintro v199 cn' K' N' I194 R195 L196 ⟨rfl, rfl, rfl, rfl, g197, dj200, -⟩
      (try rw [pk_15] at dj200)
      have hM201 : NmM I194 R0 L137 a1 gQ := NmM.kpS hM170 g197 hS143.1 ta1 (by decide +kernel) (by decide +kernel)
      have hS202 := hS143.tr g197 (by decide +kernel) (by decide +kernel)
      have c203 : I194 a1 3 = v41 := (g197.cell ta1 (by decide +kernel)).trans c144
      have hO204 : FrO 14 a1 T I0 I194 := hO145.st g197 (by decide +kernel)
      rcases dj200 with ⟨p205, p206, p207, p208, p209, p210, p211, p212, p213, p214, p215, p216, p217, p218, gl219, -⟩ | ⟨p220, p221, p222, p223, p224, -⟩ | ⟨p225, p226, p227, p228, p229, p230, p231, -⟩ | ⟨p232, p233, p234, p235, p236, p237, p238, p239, -⟩
      · skip
        have hL240 := hL169.tr gl219 (by decide +kernel)
        have hM241 : NmM I194 R0 L196 a1 gQ := NmM.kpL hM201 gl219 hS202.1 ta1 (by decide +kernel)
        obtain ⟨v242, c243⟩ : ∃ v, I194 a0 13 = v := ⟨_, rfl⟩
        rw [c243] at p211
        rw [c172] at p211
        obtain ⟨v244, c245⟩ : ∃ v, I194 a0 9 = v := ⟨_, rfl⟩
        have b246 := iv15_9 hS202.1 ta0 c245
        rw [c245] at p212
        rw [c245] at p213
        obtain ⟨v247, c248⟩ : ∃ v, I194 a0 10 = v := ⟨_, rfl⟩
        have b249 := iv15_10 hS202.1 ta0 c248
        rw [c248] at p214
        obtain ⟨v250, c251⟩ : ∃ v, I194 a0 11 = v := ⟨_, rfl⟩
        rw [c251] at p215
        obtain ⟨y252, c253⟩ : ∃ v, L196 a0 15 = v := ⟨_, rfl⟩
        rw [c253] at p216
        obtain ⟨v254, c255⟩ : ∃ v, I194 a0 12 = v := ⟨_, rfl⟩
        rw [c255] at p217
        obtain ⟨v256, c257⟩ : ∃ v, I194 a0 8 = v := ⟨_, rfl⟩
        have b258 := iv15_8 hS202.1 ta0 c257
        rw [c257] at p218
        replace hF := hF.neg (by omega)
        replace hP := hP.neg (by omega)
        replace hF := hF.neg (by omega)
        replace hP := hP.neg (by omega)
        replace hF := hF.neg (by omega)
        replace hP := hP.neg (by omega)
        refine tr_istore_n dX12_readCheese_35 (by decide) (by decide) ?_
        refine tr_aload_n dX12_readCheese_36 rfl ?_
        refine tr_ldcS dX12_readCheese_37 ld12_186 ?_
        refine q_callVi hE (M' := mX12_eatsWord) (as := [_]) dX12_readCheese_39 lk12_290 inX12_eatsWord seX12_eatsWord myX12_eatsWord (by decide) ⟨by decide, by decide⟩ rfl (kR15 hS202.1 ta0) (Nat.le_of_ble_eq_true rfl) rfl rfl (by decide) (by decide) (fk_X12_eatsWord hS202.1 (gB) ((tkN gB (tkN gB (tkN gB (tkN gB gs))))) ta0 (by decide) (TxA.kp hT hS202 ta0 rfl rfl rfl (by decide +kernel) (by decide +kernel)) (by (try rw [c245]); first | done | with_reducible assumption | omega) (by (try rw [c245]); first | done | with_reducible assumption | omega) (by (try rw [c248]); first | done | with_reducible assumption | omega) (by (try rw [c251]); first | done | with_reducible assumption | omega) (by (try rw [c253]); first | done | assumption) (by (try rw [c255]); first | done | assumption) (by (try rw [c257]); first | done | assumption) (by (try rw [((hS202.cell ta0 (by decide +kernel)).trans c26)]); first | done | with_reducible assumption | omega)) ?_
        rintro v264 cn' K' N' I259 R260 L261 ⟨rfl, rfl, rfl, rfl, g262, gl263, h265, dj266, -⟩
        (try rw [pk_10] at dj266)
        have hM267 : NmM I259 R0 L196 a1 gQ := NmM.kpS hM241 g262 hS202.1 ta1 (by decide +kernel) (by decide +kernel)
        have hS268 := hS202.tr g262 (by decide +kernel) (by decide +kernel)
        have c269 : I259 a1 3 = v41 := (g262.cell ta1 (by decide +kernel)).trans c203
        have c270 : I259 a0 13 = v242 := (g262.cell ta0 (by decide +kernel)).trans c243
        have hO271 : FrO 14 a1 T I0 I259 := hO204.st g262 (by decide +kernel)
        have hL272 := hL240.tr gl263 (by decide +kernel)
        have hM273 : NmM I259 R0 L261 a1 gQ := NmM.kpL hM267 gl263 hS268.1 ta1 (by decide +kernel)
        rcases dj266 with ⟨p274, p275, p276, p277, p278, p279, p280, p281, p282, p283, p284, -⟩ | ⟨p285, p286, p287, p288, p289, p290, p291, p292, p293, p294, -⟩
        · skip
          rw [c270] at p277
          rw [c243] at p277
          obtain ⟨v295, c296⟩ : ∃ v, I259 a0 9 = v := ⟨_, rfl⟩
          have b297 := iv15_9 hS268.1 ta0 c296
          rw [c296] at p278
          rw [c296] at p279
          obtain ⟨v298, c299⟩ : ∃ v, I259 a0 10 = v := ⟨_, rfl⟩
          have b300 := iv15_10 hS268.1 ta0 c299
          rw [c299] at p280
          obtain ⟨v301, c302⟩ : ∃ v, I259 a0 11 = v := ⟨_, rfl⟩
          rw [c302] at p281
          obtain ⟨y303, c304⟩ : ∃ v, L261 a0 15 = v := ⟨_, rfl⟩
          rw [c304] at p282
          obtain ⟨v305, c306⟩ : ∃ v, I259 a0 12 = v := ⟨_, rfl⟩
          rw [c306] at p283
          obtain ⟨v307, c308⟩ : ∃ v, I259 a0 8 = v := ⟨_, rfl⟩
          have b309 := iv15_8 hS268.1 ta0 c308
          rw [c308] at p284
          refine tr_istore dX12_readCheese_42 (by decide) (by decide) ?_
          refine tr_aload_n dX12_readCheese_44 rfl ?_
          refine q_getI dX12_readCheese_45 fl12_99 (kR15 hS268.1 ta0) c296 ?_
          refine q_iconst dX12_readCheese_48 (by decide) ?_
          intro v310 h311
          refine q_icmp_ne 53 dX12_readCheese_49 (by decide) (fun h312 => ?_) (fun h312 => ?_)
          · skip
            refine tr_aload_n dX12_readCheese_53 rfl ?_
            refine tr_lload_n dX12_readCheese_54 rfl ?_
            refine q_iconst dX12_readCheese_55 (by decide) ?_
            intro v313 h314
            refine tr_aload_n dX12_readCheese_56 rfl ?_
            refine tr_getR dX12_readCheese_57 fl12_188 (kR15 hS268.1 ta0) d2 ?_
            refine q_getI dX12_readCheese_60 fl12_224 (kR14 hS268.1 ta1) c269 ?_
            obtain ⟨v316, c317⟩ : ∃ v, I259 a1 7 = v := ⟨_, rfl⟩
            have b318 := iv14_7 hS268.1 ta1 c317
            have p315 := hS268.1.2.2.2.2.1 a0 ta0 _ d2
            rw [c317, c269, ((hS268.cell ta1 (by decide +kernel)).trans c46)] at p315
            refine q_callVv hE (M' := mX12_names) (as := [_, _, _]) dX12_readCheese_63 lk12_293 inX12_names seX12_names myX12_names (by decide) ⟨by decide, by decide⟩ rfl (kR15 hS268.1 ta0) (Nat.le_of_ble_eq_true rfl) rfl rfl (by decide) (by decide) (fk_X12_names hS268.1  ta0 (fun q0 z0 => by obtain rfl := Option.some.inj ((d2).symm.trans z0); (try rw [c317]); first | done | with_reducible assumption | omega) ⟨_, d2⟩) ?_
            rintro cn' K' N' I319 R320 L321 ⟨rfl, rfl, rfl, rfl, g322, gl323, rp325, rp326, -⟩
            have hS327 := hS268.tr g322 (by decide +kernel) (by decide +kernel)
            have c328 : I319 a1 3 = v41 := (g322.cell ta1 (by decide +kernel)).trans c269
            have c329 : I319 a0 13 = v242 := (g322.cell ta0 (by decide +kernel)).trans c270
            have c330 : I319 a0 9 = v295 := (g322.cell ta0 (by decide +kernel)).trans c296
            have c331 : I319 a0 10 = v298 := (g322.cell ta0 (by decide +kernel)).trans c299
            have c332 : I319 a0 11 = v301 := (g322.cell ta0 (by decide +kernel)).trans c302
            have c333 : I319 a0 12 = v305 := (g322.cell ta0 (by decide +kernel)).trans c306
            have c334 : I319 a0 8 = v307 := (g322.cell ta0 (by decide +kernel)).trans c308
            have hO335 : FrO 14 a1 T I0 I319 := hO271.tr (rp326 _ d2)
            have hL336 := hL272.tr gl323 (by decide +kernel)
            have c337 : L321 a0 15 = y303 := (gl323.cell ta0 (by decide +kernel)).trans c304
            have hM338 := NmM.up5 (B := gB) (s := (tkN gB gs)) hM273 (rp325 _ d2) (by omega) (by omega) (by rw [c317]; omega) (by omega) (by omega)
            refine tr_aload_n dX12_readCheese_66 rfl ?_
            refine tr_getR dX12_readCheese_67 fl12_188 (kR15 hS327.1 ta0) d2 ?_
            refine tr_getR dX12_readCheese_70 fl12_296 (kR14 hS327.1 ta1) d67 ?_
            refine tr_aload_n dX12_readCheese_73 rfl ?_
            refine tr_getR dX12_readCheese_74 fl12_188 (kR15 hS327.1 ta0) d2 ?_
            refine q_getI dX12_readCheese_77 fl12_224 (kR14 hS327.1 ta1) c328 ?_
            refine tr_iload_n dX12_readCheese_80 rfl ?_
            refine q_iast dX12_readCheese_81 (kR58 hS327.1 ta66) (ti_in (nR58 hS327.1 ta66) (by omega) (by omega)) hS327 ta66 (by show (0 : Int) ≤ v199.toInt ∧ v199.toInt ≤ (3 : Int); omega) rfl (by rfl) ?_
            intro I339 hS340 e342 f341
            have c343 : I339 a1 3 = v41 := (f341 _ _ (fun q => by have z := ta1; rw [q.1, ta66] at z; exact absurd z (by decide))).trans c328
            have c344 : I339 a0 13 = v242 := (f341 _ _ (fun q => by have z := ta0; rw [q.1, ta66] at z; exact absurd z (by decide))).trans c329
            have c345 : I339 a0 9 = v295 := (f341 _ _ (fun q => by have z := ta0; rw [q.1, ta66] at z; exact absurd z (by decide))).trans c330
            have c346 : I339 a0 10 = v298 := (f341 _ _ (fun q => by have z := ta0; rw [q.1, ta66] at z; exact absurd z (by decide))).trans c331
            have c347 : I339 a0 11 = v301 := (f341 _ _ (fun q => by have z := ta0; rw [q.1, ta66] at z; exact absurd z (by decide))).trans c332
            have c348 : I339 a0 12 = v305 := (f341 _ _ (fun q => by have z := ta0; rw [q.1, ta66] at z; exact absurd z (by decide))).trans c333
            have c349 : I339 a0 8 = v307 := (f341 _ _ (fun q => by have z := ta0; rw [q.1, ta66] at z; exact absurd z (by decide))).trans c334
            have hO350 : FrO 14 a1 T I0 I339 := hO335.put f341 ta66 (Or.inl (by decide))
            have hM351 : NmM I339 R0 L321 a1 (bdQ gB gQ 5 (tkN gB gs)) := NmM.kp1 hM338 f341 ta66 rfl rfl hS327.1 ta1
            refine tr_aload_n dX12_readCheese_82 rfl ?_
            refine tr_getR dX12_readCheese_83 fl12_188 (kR15 hS340.1 ta0) d2 ?_
            refine tr_getR dX12_readCheese_86 fl12_299 (kR14 hS340.1 ta1) d69 ?_
            refine tr_aload_n dX12_readCheese_89 rfl ?_
            refine tr_getR dX12_readCheese_90 fl12_188 (kR15 hS340.1 ta0) d2 ?_
            refine q_getI dX12_readCheese_93 fl12_224 (kR14 hS340.1 ta1) c343 ?_
            refine tr_iload dX12_readCheese_96 rfl ?_
            refine q_zastE dX12_readCheese_98 (kR62 hS340.1 ta68) (ti_in (nR62 hS340.1 ta68) (by omega) (by omega)) hS340 ta68 (by omega) rfl rfl (by rfl) ?_
            intro I352 hS353 e355 f354
            have c356 : I352 a1 3 = v41 := (f354 _ _ (fun q => by have z := ta1; rw [q.1, ta68] at z; exact absurd z (by decide))).trans c343
            have c357 : I352 a0 13 = v242 := (f354 _ _ (fun q => by have z := ta0; rw [q.1, ta68] at z; exact absurd z (by decide))).trans c344
            have c358 : I352 a0 9 = v295 := (f354 _ _ (fun q => by have z := ta0; rw [q.1, ta68] at z; exact absurd z (by decide))).trans c345
            have c359 : I352 a0 10 = v298 := (f354 _ _ (fun q => by have z := ta0; rw [q.1, ta68] at z; exact absurd z (by decide))).trans c346
            have c360 : I352 a0 11 = v301 := (f354 _ _ (fun q => by have z := ta0; rw [q.1, ta68] at z; exact absurd z (by decide))).trans c347
            have c361 : I352 a0 12 = v305 := (f354 _ _ (fun q => by have z := ta0; rw [q.1, ta68] at z; exact absurd z (by decide))).trans c348
            have c362 : I352 a0 8 = v307 := (f354 _ _ (fun q => by have z := ta0; rw [q.1, ta68] at z; exact absurd z (by decide))).trans c349
            have hO363 : FrO 14 a1 T I0 I352 := hO350.put f354 ta68 (Or.inl (by decide))
            have hM364 : NmM I352 R0 L321 a1 (bdQ gB gQ 5 (tkN gB gs)) := NmM.kp1 hM351 f354 ta68 rfl rfl hS340.1 ta1
            refine tr_aload_n dX12_readCheese_99 rfl ?_
            refine tr_getR dX12_readCheese_100 fl12_188 (kR15 hS353.1 ta0) d2 ?_
            refine tr_dup dX12_readCheese_103 rfl ?_
            refine q_getI dX12_readCheese_104 fl12_224 (kR14 hS353.1 ta1) c356 ?_
            refine q_iconst dX12_readCheese_107 (by decide) ?_
            intro v365 h366
            refine q_iaddE dX12_readCheese_108 (by intros; omega) ?_
            intro v367 h368
            refine q_putX dX12_readCheese_109 fl12_224 (kR14 hS353.1 ta1) (Or.inl rfl) hS353 ta1 (by decide +kernel) (hS353.1.putN (d' := 0) ta0 d2 (Or.inr (Or.inl rfl)) (by rw [c356]; omega) (by decide) (by show (0 : Int) ≤ v367.toInt ∧ v367.toInt ≤ (8 : Int); omega)) ?_
            intro I369 hS370 e371 f372
            have c373 : I369 a0 13 = v242 := (f372 _ _ (fun q => absurd q.2 (by decide))).trans c357
            have c374 : I369 a0 9 = v295 := (f372 _ _ (fun q => absurd q.2 (by decide))).trans c358
            have c375 : I369 a0 10 = v298 := (f372 _ _ (fun q => absurd q.2 (by decide))).trans c359
            have c376 : I369 a0 11 = v301 := (f372 _ _ (fun q => absurd q.2 (by decide))).trans c360
            have c377 : I369 a0 12 = v305 := (f372 _ _ (fun q => absurd q.2 (by decide))).trans c361
            have c378 : I369 a0 8 = v307 := (f372 _ _ (fun q => absurd q.2 (by decide))).trans c362
            have hO379 : FrO 14 a1 T I0 I369 := hO363.put f372 ta1 (Or.inr rfl)
            have hM380 : NmM I369 R0 L321 a1 (bdQ gB gQ 5 (tkN gB gs)) := NmM.kp1 hM364 f372 ta1 rfl rfl hS353.1 ta1
            have eF := hF.eq
            have eP := hP.eq
            have es381 : chS gB gQ (tkN gB gs) = (tkN gB (tkN gB (tkN gB (tkN gB (tkN gB gs))))) := by simp only [chS, ↓reduceIte]; repeat' (first | split | omega)
            obtain ⟨v382, c383⟩ : ∃ v, I369 a0 14 = v := ⟨_, rfl⟩
            exact tr_vret hZ dX12_readCheese_112 rfl (by decide) (by decide) ⟨rfl, rfl, rfl, rfl, rfl, hS370, (fun b hb => (Option.some.inj (d2.symm.trans hb)) ▸ (((((((((FrM.rf (R := R0) (b := a1) (T := T)).st g75 (by decide +kernel)).st g138 (by decide +kernel)).st g197 (by decide +kernel)).st g262 (by decide +kernel)).st g322 (by decide +kernel)).pu f341 (by decide) (by decide) d67).pu f354 (by decide) (by decide) d69).put f372 ta1 (by decide))), (fun dr hd => (Option.some.inj (d2.symm.trans hd)) ▸ hO379), (Or.inl ⟨(by (try rw [w125]); (try rw [es381]); first | done | with_reducible assumption | omega), (fun q0 z0 => by obtain rfl := Option.some.inj ((d2).symm.trans z0); (try rw [w125]); (try rw [es381]); (try rw [((hS370.cell ta1 (by decide +kernel)).trans c30)]); first | done | with_reducible assumption | omega), (fun q0 z0 => by obtain rfl := Option.some.inj ((d2).symm.trans z0); (try rw [w125]); (try rw [es381]); (try rw [((hS370.cell ta1 (by decide +kernel)).trans c34)]); first | done | with_reducible assumption | omega), (fun q0 z0 => by obtain rfl := Option.some.inj ((d2).symm.trans z0); (try rw [w125]); (try rw [es381]); (try rw [((hS370.cell ta1 (by decide +kernel)).trans c38)]); first | done | with_reducible assumption | omega), (fun q0 z0 => by obtain rfl := Option.some.inj ((d2).symm.trans z0); (try rw [w125]); (try rw [es381]); (try rw [e371]); first | done | with_reducible assumption | omega), (fun q0 z0 => by obtain rfl := Option.some.inj ((d2).symm.trans z0); (try rw [w125]); (try rw [es381]); (try rw [((hS370.cell ta1 (by decide +kernel)).trans c46)]); first | done | with_reducible assumption | omega), (fun q0 z0 => by obtain rfl := Option.some.inj ((d2).symm.trans z0); (try rw [w125]); (try rw [es381]); (try rw [((hS370.cell ta1 (by decide +kernel)).trans c50)]); first | done | with_reducible assumption | omega), (fun q0 z0 => by obtain rfl := Option.some.inj ((d2).symm.trans z0); (try rw [w125]); (try rw [es381]); (try rw [((hS370.cell ta1 (by decide +kernel)).trans c54)]); first | done | with_reducible assumption | omega), (fun q0 z0 => by obtain rfl := Option.some.inj ((d2).symm.trans z0); (try rw [w125]); (try rw [es381]); (try rw [((hS370.cell ta1 (by decide +kernel)).trans c58)]); first | done | with_reducible assumption | omega), (by (try rw [w125]); (try rw [es381]); (try rw [c373]); (try rw [c65]); first | done | with_reducible assumption | omega), (by (try rw [w125]); (try rw [es381]); (try rw [c374]); first | done | with_reducible assumption | omega), (by (try rw [w125]); (try rw [es381]); (try rw [c374]); first | done | with_reducible assumption | omega), (by (try rw [w125]); (try rw [es381]); (try rw [c375]); first | done | with_reducible assumption | omega), (by (try rw [w125]); (try rw [es381]); (try rw [c376]); first | done | with_reducible assumption | omega), (by (try rw [w125]); (try rw [es381]); (try rw [c337]); first | done | assumption), (by (try rw [w125]); (try rw [es381]); (try rw [c377]); first | done | assumption), (by (try rw [w125]); (try rw [es381]); (try rw [c378]); first | done | assumption), hL336, (fun b hb => (Option.some.inj (d2.symm.trans hb)) ▸ NmM.ln hM380 (by omega)), (fun E b hb hE => by obtain rfl := Option.some.inj (d2.symm.trans hb); exact AlM.ch hE hW0 ta1 (by omega) (by omega) (hS370.cell ta1 (by decide +kernel)) (fun a j h n1 n2 => hS370.2.1 a j (wm_p (p := fun r => !(rdm r) || (Nat.beq r 58 || Nat.beq r 62)) (by decide +kernel) (by rw [h, nbq n1, nbq n2]; rfl))) (fun a ha => by obtain rfl := Option.some.inj (d67.symm.trans ha); have zi : v41.toNatClampNeg = (gQ 3).toNat := congrArg Int.toNat (by omega); have ze := (Eq.trans ((f372 _ _ (fun q => by have z := ta66; rw [q.1, ta1] at z; exact absurd z (by decide))).trans (f354 _ _ (fun q => by have z := ta66; rw [q.1, ta68] at z; exact absurd z (by decide)))) e342); rw [zi] at ze; exact ⟨by rw [ze]; (try simp only [dnD, ↓reduceIte]); repeat' (first | split | omega), fun j hj => ((f372 _ _ (fun q => by have z := ta66; rw [q.1, ta1] at z; exact absurd z (by decide))).trans ((f354 _ _ (fun q => by have z := ta66; rw [q.1, ta68] at z; exact absurd z (by decide))).trans ((f341 _ _ (fun q => hj (q.2.trans zi))).trans ((g322.cell ta66 (wm_no (by decide +kernel))).trans ((g262.cell ta66 (wm_no (by decide +kernel))).trans ((g197.cell ta66 (wm_no (by decide +kernel))).trans ((g138.cell ta66 (wm_no (by decide +kernel))).trans (g75.cell ta66 (wm_no (by decide +kernel))))))))))⟩) (fun a ha => by obtain rfl := Option.some.inj (d69.symm.trans ha); have zi : v41.toNatClampNeg = (gQ 3).toNat := congrArg Int.toNat (by omega); have ze := (Eq.trans (f372 _ _ (fun q => by have z := ta68; rw [q.1, ta1] at z; exact absurd z (by decide))) e355); rw [zi] at ze; exact ⟨by rw [ze]; (try simp only [dnD, ↓reduceIte]); repeat' (first | split | omega), fun j hj => ((f372 _ _ (fun q => by have z := ta68; rw [q.1, ta1] at z; exact absurd z (by decide))).trans ((f354 _ _ (fun q => hj (q.2.trans zi))).trans ((f341 _ _ (fun q => by have z := ta68; rw [q.1, ta66] at z; exact absurd z (by decide))).trans ((g322.cell ta68 (wm_no (by decide +kernel))).trans ((g262.cell ta68 (wm_no (by decide +kernel))).trans ((g197.cell ta68 (wm_no (by decide +kernel))).trans ((g138.cell ta68 (wm_no (by decide +kernel))).trans (g75.cell ta68 (wm_no (by decide +kernel))))))))))⟩)), trivial⟩), trivial⟩
          · skip
            exfalso; omega
        · skip
          rw [c270] at p287
          rw [c243] at p287
          obtain ⟨v384, c385⟩ : ∃ v, I259 a0 9 = v := ⟨_, rfl⟩
          have b386 := iv15_9 hS268.1 ta0 c385
          rw [c385] at p288
          rw [c385] at p289
          obtain ⟨v387, c388⟩ : ∃ v, I259 a0 10 = v := ⟨_, rfl⟩
          have b389 := iv15_10 hS268.1 ta0 c388
          rw [c388] at p290
          obtain ⟨v390, c391⟩ : ∃ v, I259 a0 11 = v := ⟨_, rfl⟩
          rw [c391] at p291
          obtain ⟨y392, c393⟩ : ∃ v, L261 a0 15 = v := ⟨_, rfl⟩
          rw [c393] at p292
          obtain ⟨v394, c395⟩ : ∃ v, I259 a0 12 = v := ⟨_, rfl⟩
          rw [c395] at p293
          obtain ⟨v396, c397⟩ : ∃ v, I259 a0 8 = v := ⟨_, rfl⟩
          have b398 := iv15_8 hS268.1 ta0 c397
          rw [c397] at p294
          refine tr_istore dX12_readCheese_42 (by decide) (by decide) ?_
          refine tr_aload_n dX12_readCheese_44 rfl ?_
          refine q_getI dX12_readCheese_45 fl12_99 (kR15 hS268.1 ta0) c385 ?_
          refine q_iconst dX12_readCheese_48 (by decide) ?_
          intro v399 h400
          refine q_icmp_ne 53 dX12_readCheese_49 (by decide) (fun h401 => ?_) (fun h401 => ?_)
          · skip
            refine tr_aload_n dX12_readCheese_53 rfl ?_
            refine tr_lload_n dX12_readCheese_54 rfl ?_
            refine q_iconst dX12_readCheese_55 (by decide) ?_
            intro v402 h403
            refine tr_aload_n dX12_readCheese_56 rfl ?_
            refine tr_getR dX12_readCheese_57 fl12_188 (kR15 hS268.1 ta0) d2 ?_
            refine q_getI dX12_readCheese_60 fl12_224 (kR14 hS268.1 ta1) c269 ?_
            obtain ⟨v405, c406⟩ : ∃ v, I259 a1 7 = v := ⟨_, rfl⟩
            have b407 := iv14_7 hS268.1 ta1 c406
            have p404 := hS268.1.2.2.2.2.1 a0 ta0 _ d2
            rw [c406, c269, ((hS268.cell ta1 (by decide +kernel)).trans c46)] at p404
            refine q_callVv hE (M' := mX12_names) (as := [_, _, _]) dX12_readCheese_63 lk12_293 inX12_names seX12_names myX12_names (by decide) ⟨by decide, by decide⟩ rfl (kR15 hS268.1 ta0) (Nat.le_of_ble_eq_true rfl) rfl rfl (by decide) (by decide) (fk_X12_names hS268.1  ta0 (fun q0 z0 => by obtain rfl := Option.some.inj ((d2).symm.trans z0); (try rw [c406]); first | done | with_reducible assumption | omega) ⟨_, d2⟩) ?_
            rintro cn' K' N' I408 R409 L410 ⟨rfl, rfl, rfl, rfl, g411, gl412, rp414, rp415, -⟩
            have hS416 := hS268.tr g411 (by decide +kernel) (by decide +kernel)
            have c417 : I408 a1 3 = v41 := (g411.cell ta1 (by decide +kernel)).trans c269
            have c418 : I408 a0 13 = v242 := (g411.cell ta0 (by decide +kernel)).trans c270
            have c419 : I408 a0 9 = v384 := (g411.cell ta0 (by decide +kernel)).trans c385
            have c420 : I408 a0 10 = v387 := (g411.cell ta0 (by decide +kernel)).trans c388
            have c421 : I408 a0 11 = v390 := (g411.cell ta0 (by decide +kernel)).trans c391
            have c422 : I408 a0 12 = v394 := (g411.cell ta0 (by decide +kernel)).trans c395
            have c423 : I408 a0 8 = v396 := (g411.cell ta0 (by decide +kernel)).trans c397
            have hO424 : FrO 14 a1 T I0 I408 := hO271.tr (rp415 _ d2)
            have hL425 := hL272.tr gl412 (by decide +kernel)
            have c426 : L410 a0 15 = y392 := (gl412.cell ta0 (by decide +kernel)).trans c393
            have hM427 := NmM.up5 (B := gB) (s := (tkN gB gs)) hM273 (rp414 _ d2) (by omega) (by omega) (by rw [c406]; omega) (by omega) (by omega)
            refine tr_aload_n dX12_readCheese_66 rfl ?_
            refine tr_getR dX12_readCheese_67 fl12_188 (kR15 hS416.1 ta0) d2 ?_
            refine tr_getR dX12_readCheese_70 fl12_296 (kR14 hS416.1 ta1) d67 ?_
            refine tr_aload_n dX12_readCheese_73 rfl ?_
            refine tr_getR dX12_readCheese_74 fl12_188 (kR15 hS416.1 ta0) d2 ?_
            refine q_getI dX12_readCheese_77 fl12_224 (kR14 hS416.1 ta1) c417 ?_
            refine tr_iload_n dX12_readCheese_80 rfl ?_
            refine q_iast dX12_readCheese_81 (kR58 hS416.1 ta66) (ti_in (nR58 hS416.1 ta66) (by omega) (by omega)) hS416 ta66 (by show (0 : Int) ≤ v199.toInt ∧ v199.toInt ≤ (3 : Int); omega) rfl (by rfl) ?_
            intro I428 hS429 e431 f430
            have c432 : I428 a1 3 = v41 := (f430 _ _ (fun q => by have z := ta1; rw [q.1, ta66] at z; exact absurd z (by decide))).trans c417
            have c433 : I428 a0 13 = v242 := (f430 _ _ (fun q => by have z := ta0; rw [q.1, ta66] at z; exact absurd z (by decide))).trans c418
            have c434 : I428 a0 9 = v384 := (f430 _ _ (fun q => by have z := ta0; rw [q.1, ta66] at z; exact absurd z (by decide))).trans c419
            have c435 : I428 a0 10 = v387 := (f430 _ _ (fun q => by have z := ta0; rw [q.1, ta66] at z; exact absurd z (by decide))).trans c420
            have c436 : I428 a0 11 = v390 := (f430 _ _ (fun q => by have z := ta0; rw [q.1, ta66] at z; exact absurd z (by decide))).trans c421
            have c437 : I428 a0 12 = v394 := (f430 _ _ (fun q => by have z := ta0; rw [q.1, ta66] at z; exact absurd z (by decide))).trans c422
            have c438 : I428 a0 8 = v396 := (f430 _ _ (fun q => by have z := ta0; rw [q.1, ta66] at z; exact absurd z (by decide))).trans c423
            have hO439 : FrO 14 a1 T I0 I428 := hO424.put f430 ta66 (Or.inl (by decide))
            have hM440 : NmM I428 R0 L410 a1 (bdQ gB gQ 5 (tkN gB gs)) := NmM.kp1 hM427 f430 ta66 rfl rfl hS416.1 ta1
            refine tr_aload_n dX12_readCheese_82 rfl ?_
            refine tr_getR dX12_readCheese_83 fl12_188 (kR15 hS429.1 ta0) d2 ?_
            refine tr_getR dX12_readCheese_86 fl12_299 (kR14 hS429.1 ta1) d69 ?_
            refine tr_aload_n dX12_readCheese_89 rfl ?_
            refine tr_getR dX12_readCheese_90 fl12_188 (kR15 hS429.1 ta0) d2 ?_
            refine q_getI dX12_readCheese_93 fl12_224 (kR14 hS429.1 ta1) c432 ?_
            refine tr_iload dX12_readCheese_96 rfl ?_
            refine q_zastE dX12_readCheese_98 (kR62 hS429.1 ta68) (ti_in (nR62 hS429.1 ta68) (by omega) (by omega)) hS429 ta68 (by omega) rfl rfl (by rfl) ?_
            intro I441 hS442 e444 f443
            have c445 : I441 a1 3 = v41 := (f443 _ _ (fun q => by have z := ta1; rw [q.1, ta68] at z; exact absurd z (by decide))).trans c432
            have c446 : I441 a0 13 = v242 := (f443 _ _ (fun q => by have z := ta0; rw [q.1, ta68] at z; exact absurd z (by decide))).trans c433
            have c447 : I441 a0 9 = v384 := (f443 _ _ (fun q => by have z := ta0; rw [q.1, ta68] at z; exact absurd z (by decide))).trans c434
            have c448 : I441 a0 10 = v387 := (f443 _ _ (fun q => by have z := ta0; rw [q.1, ta68] at z; exact absurd z (by decide))).trans c435
            have c449 : I441 a0 11 = v390 := (f443 _ _ (fun q => by have z := ta0; rw [q.1, ta68] at z; exact absurd z (by decide))).trans c436
            have c450 : I441 a0 12 = v394 := (f443 _ _ (fun q => by have z := ta0; rw [q.1, ta68] at z; exact absurd z (by decide))).trans c437
            have c451 : I441 a0 8 = v396 := (f443 _ _ (fun q => by have z := ta0; rw [q.1, ta68] at z; exact absurd z (by decide))).trans c438
            have hO452 : FrO 14 a1 T I0 I441 := hO439.put f443 ta68 (Or.inl (by decide))
            have hM453 : NmM I441 R0 L410 a1 (bdQ gB gQ 5 (tkN gB gs)) := NmM.kp1 hM440 f443 ta68 rfl rfl hS429.1 ta1
            refine tr_aload_n dX12_readCheese_99 rfl ?_
            refine tr_getR dX12_readCheese_100 fl12_188 (kR15 hS442.1 ta0) d2 ?_
            refine tr_dup dX12_readCheese_103 rfl ?_
            refine q_getI dX12_readCheese_104 fl12_224 (kR14 hS442.1 ta1) c445 ?_
            refine q_iconst dX12_readCheese_107 (by decide) ?_
            intro v454 h455
            refine q_iaddE dX12_readCheese_108 (by intros; omega) ?_
            intro v456 h457
            refine q_putX dX12_readCheese_109 fl12_224 (kR14 hS442.1 ta1) (Or.inl rfl) hS442 ta1 (by decide +kernel) (hS442.1.putN (d' := 0) ta0 d2 (Or.inr (Or.inl rfl)) (by rw [c445]; omega) (by decide) (by show (0 : Int) ≤ v456.toInt ∧ v456.toInt ≤ (8 : Int); omega)) ?_
            intro I458 hS459 e460 f461
            have c462 : I458 a0 13 = v242 := (f461 _ _ (fun q => absurd q.2 (by decide))).trans c446
            have c463 : I458 a0 9 = v384 := (f461 _ _ (fun q => absurd q.2 (by decide))).trans c447
            have c464 : I458 a0 10 = v387 := (f461 _ _ (fun q => absurd q.2 (by decide))).trans c448
            have c465 : I458 a0 11 = v390 := (f461 _ _ (fun q => absurd q.2 (by decide))).trans c449
            have c466 : I458 a0 12 = v394 := (f461 _ _ (fun q => absurd q.2 (by decide))).trans c450
            have c467 : I458 a0 8 = v396 := (f461 _ _ (fun q => absurd q.2 (by decide))).trans c451
            have hO468 : FrO 14 a1 T I0 I458 := hO452.put f461 ta1 (Or.inr rfl)
            have hM469 : NmM I458 R0 L410 a1 (bdQ gB gQ 5 (tkN gB gs)) := NmM.kp1 hM453 f461 ta1 rfl rfl hS442.1 ta1
            have eF := hF.eq
            have eP := hP.eq
            have p471 := p286
            unfold NotW at p471
            have es470 : chS gB gQ (tkN gB gs) = (tkN gB (tkN gB (tkN gB (tkN gB gs)))) := by simp only [chS, ↓reduceIte]; repeat' (first | split | omega)
            obtain ⟨v472, c473⟩ : ∃ v, I458 a0 14 = v := ⟨_, rfl⟩
            exact tr_vret hZ dX12_readCheese_112 rfl (by decide) (by decide) ⟨rfl, rfl, rfl, rfl, rfl, hS459, (fun b hb => (Option.some.inj (d2.symm.trans hb)) ▸ (((((((((FrM.rf (R := R0) (b := a1) (T := T)).st g75 (by decide +kernel)).st g138 (by decide +kernel)).st g197 (by decide +kernel)).st g262 (by decide +kernel)).st g411 (by decide +kernel)).pu f430 (by decide) (by decide) d67).pu f443 (by decide) (by decide) d69).put f461 ta1 (by decide))), (fun dr hd => (Option.some.inj (d2.symm.trans hd)) ▸ hO468), (Or.inl ⟨(by (try rw [w125]); (try rw [es470]); first | done | with_reducible assumption | omega), (fun q0 z0 => by obtain rfl := Option.some.inj ((d2).symm.trans z0); (try rw [w125]); (try rw [es470]); (try rw [((hS459.cell ta1 (by decide +kernel)).trans c30)]); first | done | with_reducible assumption | omega), (fun q0 z0 => by obtain rfl := Option.some.inj ((d2).symm.trans z0); (try rw [w125]); (try rw [es470]); (try rw [((hS459.cell ta1 (by decide +kernel)).trans c34)]); first | done | with_reducible assumption | omega), (fun q0 z0 => by obtain rfl := Option.some.inj ((d2).symm.trans z0); (try rw [w125]); (try rw [es470]); (try rw [((hS459.cell ta1 (by decide +kernel)).trans c38)]); first | done | with_reducible assumption | omega), (fun q0 z0 => by obtain rfl := Option.some.inj ((d2).symm.trans z0); (try rw [w125]); (try rw [es470]); (try rw [e460]); first | done | with_reducible assumption | omega), (fun q0 z0 => by obtain rfl := Option.some.inj ((d2).symm.trans z0); (try rw [w125]); (try rw [es470]); (try rw [((hS459.cell ta1 (by decide +kernel)).trans c46)]); first | done | with_reducible assumption | omega), (fun q0 z0 => by obtain rfl := Option.some.inj ((d2).symm.trans z0); (try rw [w125]); (try rw [es470]); (try rw [((hS459.cell ta1 (by decide +kernel)).trans c50)]); first | done | with_reducible assumption | omega), (fun q0 z0 => by obtain rfl := Option.some.inj ((d2).symm.trans z0); (try rw [w125]); (try rw [es470]); (try rw [((hS459.cell ta1 (by decide +kernel)).trans c54)]); first | done | with_reducible assumption | omega), (fun q0 z0 => by obtain rfl := Option.some.inj ((d2).symm.trans z0); (try rw [w125]); (try rw [es470]); (try rw [((hS459.cell ta1 (by decide +kernel)).trans c58)]); first | done | with_reducible assumption | omega), (by (try rw [w125]); (try rw [es470]); (try rw [c462]); (try rw [c65]); first | done | with_reducible assumption | omega), (by (try rw [w125]); (try rw [es470]); (try rw [c463]); first | done | with_reducible assumption | omega), (by (try rw [w125]); (try rw [es470]); (try rw [c463]); first | done | with_reducible assumption | omega), (by (try rw [w125]); (try rw [es470]); (try rw [c464]); first | done | with_reducible assumption | omega), (by (try rw [w125]); (try rw [es470]); (try rw [c465]); first | done | with_reducible assumption | omega), (by (try rw [w125]); (try rw [es470]); (try rw [c426]); first | done | assumption), (by (try rw [w125]); (try rw [es470]); (try rw [c466]); first | done | assumption), (by (try rw [w125]); (try rw [es470]); (try rw [c467]); first | done | assumption), hL425, (fun b hb => (Option.some.inj (d2.symm.trans hb)) ▸ NmM.ln hM469 (by omega)), (fun E b hb hE => by obtain rfl := Option.some.inj (d2.symm.trans hb); exact AlM.ch hE hW0 ta1 (by omega) (by omega) (hS459.cell ta1 (by decide +kernel)) (fun a j h n1 n2 => hS459.2.1 a j (wm_p (p := fun r => !(rdm r) || (Nat.beq r 58 || Nat.beq r 62)) (by decide +kernel) (by rw [h, nbq n1, nbq n2]; rfl))) (fun a ha => by obtain rfl := Option.some.inj (d67.symm.trans ha); have zi : v41.toNatClampNeg = (gQ 3).toNat := congrArg Int.toNat (by omega); have ze := (Eq.trans ((f461 _ _ (fun q => by have z := ta66; rw [q.1, ta1] at z; exact absurd z (by decide))).trans (f443 _ _ (fun q => by have z := ta66; rw [q.1, ta68] at z; exact absurd z (by decide)))) e431); rw [zi] at ze; exact ⟨by rw [ze]; (try simp only [dnD, ↓reduceIte]); repeat' (first | split | omega), fun j hj => ((f461 _ _ (fun q => by have z := ta66; rw [q.1, ta1] at z; exact absurd z (by decide))).trans ((f443 _ _ (fun q => by have z := ta66; rw [q.1, ta68] at z; exact absurd z (by decide))).trans ((f430 _ _ (fun q => hj (q.2.trans zi))).trans ((g411.cell ta66 (wm_no (by decide +kernel))).trans ((g262.cell ta66 (wm_no (by decide +kernel))).trans ((g197.cell ta66 (wm_no (by decide +kernel))).trans ((g138.cell ta66 (wm_no (by decide +kernel))).trans (g75.cell ta66 (wm_no (by decide +kernel))))))))))⟩) (fun a ha => by obtain rfl := Option.some.inj (d69.symm.trans ha); have zi : v41.toNatClampNeg = (gQ 3).toNat := congrArg Int.toNat (by omega); have ze := (Eq.trans (f461 _ _ (fun q => by have z := ta68; rw [q.1, ta1] at z; exact absurd z (by decide))) e444); rw [zi] at ze; exact ⟨by rw [ze]; (try simp only [dnD, ↓reduceIte]); repeat' (first | split | omega), fun j hj => ((f461 _ _ (fun q => by have z := ta68; rw [q.1, ta1] at z; exact absurd z (by decide))).trans ((f443 _ _ (fun q => hj (q.2.trans zi))).trans ((f430 _ _ (fun q => by have z := ta68; rw [q.1, ta66] at z; exact absurd z (by decide))).trans ((g411.cell ta68 (wm_no (by decide +kernel))).trans ((g262.cell ta68 (wm_no (by decide +kernel))).trans ((g197.cell ta68 (wm_no (by decide +kernel))).trans ((g138.cell ta68 (wm_no (by decide +kernel))).trans (g75.cell ta68 (wm_no (by decide +kernel))))))))))⟩)), trivial⟩), trivial⟩
          · skip
            exfalso; omega
      · skip
        obtain ⟨v474, c475⟩ : ∃ v, I194 a0 9 = v := ⟨_, rfl⟩
        have b476 := iv15_9 hS202.1 ta0 c475
        rw [c475] at p222
        obtain ⟨v477, c478⟩ : ∃ v, I194 a0 13 = v := ⟨_, rfl⟩
        rw [c478] at p223
        obtain ⟨v479, c480⟩ : ∃ v, I194 a0 14 = v := ⟨_, rfl⟩
        rw [c480] at p224
        replace hF := hF.pos (by omega)
        replace hP := hP.pos (by omega)
        refine tr_istore_n dX12_readCheese_35 (by decide) (by decide) ?_
        refine tr_aload_n dX12_readCheese_36 rfl ?_
        refine tr_ldcS dX12_readCheese_37 ld12_186 ?_
        refine q_callVi hE (M' := mX12_eatsWord) (as := [_]) dX12_readCheese_39 lk12_290 inX12_eatsWord seX12_eatsWord myX12_eatsWord (by decide) ⟨by decide, by decide⟩ rfl (kR15 hS202.1 ta0) (Nat.le_of_ble_eq_true rfl) rfl rfl (by decide) (by decide) (k_X12_eatsWord hS202.1 ta0 (by decide)) ?_
        rintro v485 cn' K' N' I481 R482 L483 ⟨rfl, rfl, rfl, rfl, g484, h486, w487, -⟩
        have hS488 := hS202.tr g484 (by decide +kernel) (by decide +kernel)
        have c489 : I481 a1 3 = v41 := (g484.cell ta1 (by decide +kernel)).trans c203
        have c490 : I481 a0 13 = v477 := (g484.cell ta0 (by decide +kernel)).trans c478
        have c491 : I481 a0 14 = v479 := (g484.cell ta0 (by decide +kernel)).trans c480
        have hO492 : FrO 14 a1 T I0 I481 := hO204.st g484 (by decide +kernel)
        have ov493 := w487.over (by rw [c475]; omega)
        obtain ⟨v494, c495⟩ : ∃ v, I481 a0 9 = v := ⟨_, rfl⟩
        have b496 := iv15_9 hS488.1 ta0 c495
        obtain ⟨v497, c498⟩ : ∃ v, I481 a0 13 = v := ⟨_, rfl⟩
        obtain ⟨v499, c500⟩ : ∃ v, I481 a0 14 = v := ⟨_, rfl⟩
        (try rw [c495] at ov493)
        (try rw [c498] at ov493)
        (try rw [c500] at ov493)
        (try rw [c475] at ov493)
        (try rw [c478] at ov493)
        (try rw [c480] at ov493)
        refine tr_istore dX12_readCheese_42 (by decide) (by decide) ?_
        refine tr_aload_n dX12_readCheese_44 rfl ?_
        refine q_getI dX12_readCheese_45 fl12_99 (kR15 hS488.1 ta0) c495 ?_
        refine q_iconst dX12_readCheese_48 (by decide) ?_
        intro v501 h502
        refine q_icmp_ne 53 dX12_readCheese_49 (by decide) (fun h503 => ?_) (fun h503 => ?_)
        · skip
          exfalso; omega
        · skip
          have eF := hF.eq
          have eP := hP.eq
          obtain ⟨v504, c505⟩ : ∃ v, I481 a0 10 = v := ⟨_, rfl⟩
          have b506 := iv15_10 hS488.1 ta0 c505
          obtain ⟨v507, c508⟩ : ∃ v, I481 a0 11 = v := ⟨_, rfl⟩
          obtain ⟨y509, c510⟩ : ∃ v, L483 a0 15 = v := ⟨_, rfl⟩
          obtain ⟨v511, c512⟩ : ∃ v, I481 a0 12 = v := ⟨_, rfl⟩
          obtain ⟨v513, c514⟩ : ∃ v, I481 a0 8 = v := ⟨_, rfl⟩
          have b515 := iv15_8 hS488.1 ta0 c514
          exact tr_vret hZ dX12_readCheese_52 rfl (by decide) (by decide) ⟨rfl, rfl, rfl, rfl, rfl, hS488, (fun b hb => (Option.some.inj (d2.symm.trans hb)) ▸ (((((FrM.rf (R := R0) (b := a1) (T := T)).st g75 (by decide +kernel)).st g138 (by decide +kernel)).st g197 (by decide +kernel)).st g484 (by decide +kernel))), (fun dr hd => (Option.some.inj (d2.symm.trans hd)) ▸ hO492), (Or.inr (⟨(by (try rw [w125]); first | done | with_reducible assumption | omega), (by (try rw [w125]); (try rw [c495]); first | done | with_reducible assumption | omega), (by (try rw [w125]); (try rw [c498]); first | done | with_reducible assumption | omega), (by (try rw [w125]); (try rw [c500]); first | done | with_reducible assumption | omega), trivial⟩)), trivial⟩
      · skip
        obtain ⟨v516, c517⟩ : ∃ v, I194 a0 9 = v := ⟨_, rfl⟩
        have b518 := iv15_9 hS202.1 ta0 c517
        rw [c517] at p229
        obtain ⟨v519, c520⟩ : ∃ v, I194 a0 13 = v := ⟨_, rfl⟩
        rw [c520] at p230
        obtain ⟨v521, c522⟩ : ∃ v, I194 a0 14 = v := ⟨_, rfl⟩
        rw [c522] at p231
        replace hF := hF.neg (by omega)
        replace hP := hP.neg (by omega)
        replace hF := hF.pos (by omega)
        replace hP := hP.pos (by omega)
        refine tr_istore_n dX12_readCheese_35 (by decide) (by decide) ?_
        refine tr_aload_n dX12_readCheese_36 rfl ?_
        refine tr_ldcS dX12_readCheese_37 ld12_186 ?_
        refine q_callVi hE (M' := mX12_eatsWord) (as := [_]) dX12_readCheese_39 lk12_290 inX12_eatsWord seX12_eatsWord myX12_eatsWord (by decide) ⟨by decide, by decide⟩ rfl (kR15 hS202.1 ta0) (Nat.le_of_ble_eq_true rfl) rfl rfl (by decide) (by decide) (k_X12_eatsWord hS202.1 ta0 (by decide)) ?_
        rintro v527 cn' K' N' I523 R524 L525 ⟨rfl, rfl, rfl, rfl, g526, h528, w529, -⟩
        have hS530 := hS202.tr g526 (by decide +kernel) (by decide +kernel)
        have c531 : I523 a1 3 = v41 := (g526.cell ta1 (by decide +kernel)).trans c203
        have c532 : I523 a0 13 = v519 := (g526.cell ta0 (by decide +kernel)).trans c520
        have c533 : I523 a0 14 = v521 := (g526.cell ta0 (by decide +kernel)).trans c522
        have hO534 : FrO 14 a1 T I0 I523 := hO204.st g526 (by decide +kernel)
        have ov535 := w529.over (by rw [c517]; omega)
        obtain ⟨v536, c537⟩ : ∃ v, I523 a0 9 = v := ⟨_, rfl⟩
        have b538 := iv15_9 hS530.1 ta0 c537
        obtain ⟨v539, c540⟩ : ∃ v, I523 a0 13 = v := ⟨_, rfl⟩
        obtain ⟨v541, c542⟩ : ∃ v, I523 a0 14 = v := ⟨_, rfl⟩
        (try rw [c537] at ov535)
        (try rw [c540] at ov535)
        (try rw [c542] at ov535)
        (try rw [c517] at ov535)
        (try rw [c520] at ov535)
        (try rw [c522] at ov535)
        refine tr_istore dX12_readCheese_42 (by decide) (by decide) ?_
        refine tr_aload_n dX12_readCheese_44 rfl ?_
        refine q_getI dX12_readCheese_45 fl12_99 (kR15 hS530.1 ta0) c537 ?_
        refine q_iconst dX12_readCheese_48 (by decide) ?_
        intro v543 h544
        refine q_icmp_ne 53 dX12_readCheese_49 (by decide) (fun h545 => ?_) (fun h545 => ?_)
        · skip
          exfalso; omega
        · skip
          have eF := hF.eq
          have eP := hP.eq
          obtain ⟨v546, c547⟩ : ∃ v, I523 a0 10 = v := ⟨_, rfl⟩
          have b548 := iv15_10 hS530.1 ta0 c547
          obtain ⟨v549, c550⟩ : ∃ v, I523 a0 11 = v := ⟨_, rfl⟩
          obtain ⟨y551, c552⟩ : ∃ v, L525 a0 15 = v := ⟨_, rfl⟩
          obtain ⟨v553, c554⟩ : ∃ v, I523 a0 12 = v := ⟨_, rfl⟩
          obtain ⟨v555, c556⟩ : ∃ v, I523 a0 8 = v := ⟨_, rfl⟩
          have b557 := iv15_8 hS530.1 ta0 c556
          exact tr_vret hZ dX12_readCheese_52 rfl (by decide) (by decide) ⟨rfl, rfl, rfl, rfl, rfl, hS530, (fun b hb => (Option.some.inj (d2.symm.trans hb)) ▸ (((((FrM.rf (R := R0) (b := a1) (T := T)).st g75 (by decide +kernel)).st g138 (by decide +kernel)).st g197 (by decide +kernel)).st g526 (by decide +kernel))), (fun dr hd => (Option.some.inj (d2.symm.trans hd)) ▸ hO534), (Or.inr (⟨(by (try rw [w125]); first | done | with_reducible assumption | omega), (by (try rw [w125]); (try rw [c537]); first | done | with_reducible assumption | omega), (by (try rw [w125]); (try rw [c540]); first | done | with_reducible assumption | omega), (by (try rw [w125]); (try rw [c542]); first | done | with_reducible assumption | omega), trivial⟩)), trivial⟩
      · skip
        obtain ⟨v558, c559⟩ : ∃ v, I194 a0 9 = v := ⟨_, rfl⟩
        have b560 := iv15_9 hS202.1 ta0 c559
        rw [c559] at p237
        obtain ⟨v561, c562⟩ : ∃ v, I194 a0 13 = v := ⟨_, rfl⟩
        rw [c562] at p238
        obtain ⟨v563, c564⟩ : ∃ v, I194 a0 14 = v := ⟨_, rfl⟩
        rw [c564] at p239
        replace hF := hF.neg (by omega)
        replace hP := hP.neg (by omega)
        replace hF := hF.neg (by omega)
        replace hP := hP.neg (by omega)
        replace hF := hF.pos (by omega)
        replace hP := hP.pos (by omega)
        refine tr_istore_n dX12_readCheese_35 (by decide) (by decide) ?_
        refine tr_aload_n dX12_readCheese_36 rfl ?_
        refine tr_ldcS dX12_readCheese_37 ld12_186 ?_
        refine q_callVi hE (M' := mX12_eatsWord) (as := [_]) dX12_readCheese_39 lk12_290 inX12_eatsWord seX12_eatsWord myX12_eatsWord (by decide) ⟨by decide, by decide⟩ rfl (kR15 hS202.1 ta0) (Nat.le_of_ble_eq_true rfl) rfl rfl (by decide) (by decide) (k_X12_eatsWord hS202.1 ta0 (by decide)) ?_
        rintro v569 cn' K' N' I565 R566 L567 ⟨rfl, rfl, rfl, rfl, g568, h570, w571, -⟩
        have hS572 := hS202.tr g568 (by decide +kernel) (by decide +kernel)
        have c573 : I565 a1 3 = v41 := (g568.cell ta1 (by decide +kernel)).trans c203
        have c574 : I565 a0 13 = v561 := (g568.cell ta0 (by decide +kernel)).trans c562
        have c575 : I565 a0 14 = v563 := (g568.cell ta0 (by decide +kernel)).trans c564
        have hO576 : FrO 14 a1 T I0 I565 := hO204.st g568 (by decide +kernel)
        have ov577 := w571.over (by rw [c559]; omega)
        obtain ⟨v578, c579⟩ : ∃ v, I565 a0 9 = v := ⟨_, rfl⟩
        have b580 := iv15_9 hS572.1 ta0 c579
        obtain ⟨v581, c582⟩ : ∃ v, I565 a0 13 = v := ⟨_, rfl⟩
        obtain ⟨v583, c584⟩ : ∃ v, I565 a0 14 = v := ⟨_, rfl⟩
        (try rw [c579] at ov577)
        (try rw [c582] at ov577)
        (try rw [c584] at ov577)
        (try rw [c559] at ov577)
        (try rw [c562] at ov577)
        (try rw [c564] at ov577)
        refine tr_istore dX12_readCheese_42 (by decide) (by decide) ?_
        refine tr_aload_n dX12_readCheese_44 rfl ?_
        refine q_getI dX12_readCheese_45 fl12_99 (kR15 hS572.1 ta0) c579 ?_
        refine q_iconst dX12_readCheese_48 (by decide) ?_
        intro v585 h586
        refine q_icmp_ne 53 dX12_readCheese_49 (by decide) (fun h587 => ?_) (fun h587 => ?_)
        · skip
          exfalso; omega
        · skip
          have eF := hF.eq
          have eP := hP.eq
          obtain ⟨v588, c589⟩ : ∃ v, I565 a0 10 = v := ⟨_, rfl⟩
          have b590 := iv15_10 hS572.1 ta0 c589
          obtain ⟨v591, c592⟩ : ∃ v, I565 a0 11 = v := ⟨_, rfl⟩
          obtain ⟨y593, c594⟩ : ∃ v, L567 a0 15 = v := ⟨_, rfl⟩
          obtain ⟨v595, c596⟩ : ∃ v, I565 a0 12 = v := ⟨_, rfl⟩
          obtain ⟨v597, c598⟩ : ∃ v, I565 a0 8 = v := ⟨_, rfl⟩
          have b599 := iv15_8 hS572.1 ta0 c598
          exact tr_vret hZ dX12_readCheese_52 rfl (by decide) (by decide) ⟨rfl, rfl, rfl, rfl, rfl, hS572, (fun b hb => (Option.some.inj (d2.symm.trans hb)) ▸ (((((FrM.rf (R := R0) (b := a1) (T := T)).st g75 (by decide +kernel)).st g138 (by decide +kernel)).st g197 (by decide +kernel)).st g568 (by decide +kernel))), (fun dr hd => (Option.some.inj (d2.symm.trans hd)) ▸ hO576), (Or.inr (⟨(by (try rw [w125]); first | done | with_reducible assumption | omega), (by (try rw [w125]); (try rw [c579]); first | done | with_reducible assumption | omega), (by (try rw [w125]); (try rw [c582]); first | done | with_reducible assumption | omega), (by (try rw [w125]); (try rw [c584]); first | done | with_reducible assumption | omega), trivial⟩)), trivial⟩
    · skip
      obtain ⟨v600, c601⟩ : ∃ v, I135 a0 9 = v := ⟨_, rfl⟩
      have b602 := iv15_9 hS143.1 ta0 c601
      rw [c601] at p161
      obtain ⟨v603, c604⟩ : ∃ v, I135 a0 13 = v := ⟨_, rfl⟩
      rw [c604] at p162
      obtain ⟨v605, c606⟩ : ∃ v, I135 a0 14 = v := ⟨_, rfl⟩
      rw [c606] at p163
      replace hF := hF.pos (by omega)
      replace hP := hP.pos (by omega)
      refine tr_lstore_n dX12_readCheese_17 (by decide) (by decide) (by decide) ?_
      refine tr_aload_n dX12_readCheese_18 rfl ?_
      refine tr_ldcwS dX12_readCheese_19 ld12_289 ?_
      refine q_iconst dX12_readCheese_22 (by decide) ?_
      intro v607 h608
      refine tr_aload_n dX12_readCheese_23 rfl ?_
      refine tr_getR dX12_readCheese_24 fl12_188 (kR15 hS143.1 ta0) d2 ?_
      refine q_getI dX12_readCheese_27 fl12_263 (kR14 hS143.1 ta1) ((hS143.cell ta1 (by decide +kernel)).trans c34) ?_
      refine q_iconst dX12_readCheese_30 (by decide) ?_
      intro v609 h610
      refine q_isubE dX12_readCheese_31 (by intros; omega) ?_
      intro v611 h612
      refine q_callVi hE (M' := mX12_readPart) (as := [_, _, _]) dX12_readCheese_32 lk12_249 inX12_readPart seX12_readPart myX12_readPart (by decide) ⟨by decide, by decide⟩ rfl (kR15 hS143.1 ta0) (Nat.le_of_ble_eq_true rfl) rfl rfl (by decide) (by decide) (k_X12_readPart hS143.1 ta0 (by decide)) ?_
      rintro v617 cn' K' N' I613 R614 L615 ⟨rfl, rfl, rfl, rfl, g616, p618, w619, -⟩
      have hS620 := hS143.tr g616 (by decide +kernel) (by decide +kernel)
      have c621 : I613 a1 3 = v41 := (g616.cell ta1 (by decide +kernel)).trans c144
      have b622 : 0 ≤ v617.toInt ∧ v617.toInt ≤ 3 := by omega
      clear p618
      have hO623 : FrO 14 a1 T I0 I613 := hO145.st g616 (by decide +kernel)
      have ov624 := w619.over (by rw [c601]; omega)
      obtain ⟨v625, c626⟩ : ∃ v, I613 a0 9 = v := ⟨_, rfl⟩
      have b627 := iv15_9 hS620.1 ta0 c626
      obtain ⟨v628, c629⟩ : ∃ v, I613 a0 13 = v := ⟨_, rfl⟩
      obtain ⟨v630, c631⟩ : ∃ v, I613 a0 14 = v := ⟨_, rfl⟩
      (try rw [c626] at ov624)
      (try rw [c629] at ov624)
      (try rw [c631] at ov624)
      (try rw [c601] at ov624)
      (try rw [c604] at ov624)
      (try rw [c606] at ov624)
      refine tr_istore_n dX12_readCheese_35 (by decide) (by decide) ?_
      refine tr_aload_n dX12_readCheese_36 rfl ?_
      refine tr_ldcS dX12_readCheese_37 ld12_186 ?_
      refine q_callVi hE (M' := mX12_eatsWord) (as := [_]) dX12_readCheese_39 lk12_290 inX12_eatsWord seX12_eatsWord myX12_eatsWord (by decide) ⟨by decide, by decide⟩ rfl (kR15 hS620.1 ta0) (Nat.le_of_ble_eq_true rfl) rfl rfl (by decide) (by decide) (k_X12_eatsWord hS620.1 ta0 (by decide)) ?_
      rintro v636 cn' K' N' I632 R633 L634 ⟨rfl, rfl, rfl, rfl, g635, h637, w638, -⟩
      have hS639 := hS620.tr g635 (by decide +kernel) (by decide +kernel)
      have c640 : I632 a1 3 = v41 := (g635.cell ta1 (by decide +kernel)).trans c621
      have c641 : I632 a0 13 = v628 := (g635.cell ta0 (by decide +kernel)).trans c629
      have c642 : I632 a0 14 = v630 := (g635.cell ta0 (by decide +kernel)).trans c631
      have hO643 : FrO 14 a1 T I0 I632 := hO623.st g635 (by decide +kernel)
      have ov644 := w638.over (by rw [c626]; omega)
      obtain ⟨v645, c646⟩ : ∃ v, I632 a0 9 = v := ⟨_, rfl⟩
      have b647 := iv15_9 hS639.1 ta0 c646
      obtain ⟨v648, c649⟩ : ∃ v, I632 a0 13 = v := ⟨_, rfl⟩
      obtain ⟨v650, c651⟩ : ∃ v, I632 a0 14 = v := ⟨_, rfl⟩
      (try rw [c646] at ov644)
      (try rw [c649] at ov644)
      (try rw [c651] at ov644)
      (try rw [c626] at ov644)
      (try rw [c629] at ov644)
      (try rw [c631] at ov644)
      refine tr_istore dX12_readCheese_42 (by decide) (by decide) ?_
      refine tr_aload_n dX12_readCheese_44 rfl ?_
      refine q_getI dX12_readCheese_45 fl12_99 (kR15 hS639.1 ta0) c646 ?_
      refine q_iconst dX12_readCheese_48 (by decide) ?_
      intro v652 h653
      refine q_icmp_ne 53 dX12_readCheese_49 (by decide) (fun h654 => ?_) (fun h654 => ?_)
      · skip
        exfalso; omega
      · skip
        have eF := hF.eq
        have eP := hP.eq
        obtain ⟨v655, c656⟩ : ∃ v, I632 a0 10 = v := ⟨_, rfl⟩
        have b657 := iv15_10 hS639.1 ta0 c656
        obtain ⟨v658, c659⟩ : ∃ v, I632 a0 11 = v := ⟨_, rfl⟩
        obtain ⟨y660, c661⟩ : ∃ v, L634 a0 15 = v := ⟨_, rfl⟩
        obtain ⟨v662, c663⟩ : ∃ v, I632 a0 12 = v := ⟨_, rfl⟩
        obtain ⟨v664, c665⟩ : ∃ v, I632 a0 8 = v := ⟨_, rfl⟩
        have b666 := iv15_8 hS639.1 ta0 c665
        exact tr_vret hZ dX12_readCheese_52 rfl (by decide) (by decide) ⟨rfl, rfl, rfl, rfl, rfl, hS639, (fun b hb => (Option.some.inj (d2.symm.trans hb)) ▸ (((((FrM.rf (R := R0) (b := a1) (T := T)).st g75 (by decide +kernel)).st g138 (by decide +kernel)).st g616 (by decide +kernel)).st g635 (by decide +kernel))), (fun dr hd => (Option.some.inj (d2.symm.trans hd)) ▸ hO643), (Or.inr (⟨(by (try rw [w125]); first | done | with_reducible assumption | omega), (by (try rw [w125]); (try rw [c646]); first | done | with_reducible assumption | omega), (by (try rw [w125]); (try rw [c649]); first | done | with_reducible assumption | omega), (by (try rw [w125]); (try rw [c651]); first | done | with_reducible assumption | omega), trivial⟩)), trivial⟩
    · skip
      obtain ⟨v667, c668⟩ : ∃ v, I135 a0 9 = v := ⟨_, rfl⟩
      have b669 := iv15_9 hS143.1 ta0 c668
      rw [c668] at p166
      obtain ⟨v670, c671⟩ : ∃ v, I135 a0 13 = v := ⟨_, rfl⟩
      rw [c671] at p167
      obtain ⟨v672, c673⟩ : ∃ v, I135 a0 14 = v := ⟨_, rfl⟩
      rw [c673] at p168
      replace hF := hF.neg (by omega)
      replace hP := hP.neg (by omega)
      replace hF := hF.pos (by omega)
      replace hP := hP.pos (by omega)
      refine tr_lstore_n dX12_readCheese_17 (by decide) (by decide) (by decide) ?_
      refine tr_aload_n dX12_readCheese_18 rfl ?_
      refine tr_ldcwS dX12_readCheese_19 ld12_289 ?_
      refine q_iconst dX12_readCheese_22 (by decide) ?_
      intro v674 h675
      refine tr_aload_n dX12_readCheese_23 rfl ?_
      refine tr_getR dX12_readCheese_24 fl12_188 (kR15 hS143.1 ta0) d2 ?_
      refine q_getI dX12_readCheese_27 fl12_263 (kR14 hS143.1 ta1) ((hS143.cell ta1 (by decide +kernel)).trans c34) ?_
      refine q_iconst dX12_readCheese_30 (by decide) ?_
      intro v676 h677
      refine q_isubE dX12_readCheese_31 (by intros; omega) ?_
      intro v678 h679
      refine q_callVi hE (M' := mX12_readPart) (as := [_, _, _]) dX12_readCheese_32 lk12_249 inX12_readPart seX12_readPart myX12_readPart (by decide) ⟨by decide, by decide⟩ rfl (kR15 hS143.1 ta0) (Nat.le_of_ble_eq_true rfl) rfl rfl (by decide) (by decide) (k_X12_readPart hS143.1 ta0 (by decide)) ?_
      rintro v684 cn' K' N' I680 R681 L682 ⟨rfl, rfl, rfl, rfl, g683, p685, w686, -⟩
      have hS687 := hS143.tr g683 (by decide +kernel) (by decide +kernel)
      have c688 : I680 a1 3 = v41 := (g683.cell ta1 (by decide +kernel)).trans c144
      have b689 : 0 ≤ v684.toInt ∧ v684.toInt ≤ 3 := by omega
      clear p685
      have hO690 : FrO 14 a1 T I0 I680 := hO145.st g683 (by decide +kernel)
      have ov691 := w686.over (by rw [c668]; omega)
      obtain ⟨v692, c693⟩ : ∃ v, I680 a0 9 = v := ⟨_, rfl⟩
      have b694 := iv15_9 hS687.1 ta0 c693
      obtain ⟨v695, c696⟩ : ∃ v, I680 a0 13 = v := ⟨_, rfl⟩
      obtain ⟨v697, c698⟩ : ∃ v, I680 a0 14 = v := ⟨_, rfl⟩
      (try rw [c693] at ov691)
      (try rw [c696] at ov691)
      (try rw [c698] at ov691)
      (try rw [c668] at ov691)
      (try rw [c671] at ov691)
      (try rw [c673] at ov691)
      refine tr_istore_n dX12_readCheese_35 (by decide) (by decide) ?_
      refine tr_aload_n dX12_readCheese_36 rfl ?_
      refine tr_ldcS dX12_readCheese_37 ld12_186 ?_
      refine q_callVi hE (M' := mX12_eatsWord) (as := [_]) dX12_readCheese_39 lk12_290 inX12_eatsWord seX12_eatsWord myX12_eatsWord (by decide) ⟨by decide, by decide⟩ rfl (kR15 hS687.1 ta0) (Nat.le_of_ble_eq_true rfl) rfl rfl (by decide) (by decide) (k_X12_eatsWord hS687.1 ta0 (by decide)) ?_
      rintro v703 cn' K' N' I699 R700 L701 ⟨rfl, rfl, rfl, rfl, g702, h704, w705, -⟩
      have hS706 := hS687.tr g702 (by decide +kernel) (by decide +kernel)
      have c707 : I699 a1 3 = v41 := (g702.cell ta1 (by decide +kernel)).trans c688
      have c708 : I699 a0 13 = v695 := (g702.cell ta0 (by decide +kernel)).trans c696
      have c709 : I699 a0 14 = v697 := (g702.cell ta0 (by decide +kernel)).trans c698
      have hO710 : FrO 14 a1 T I0 I699 := hO690.st g702 (by decide +kernel)
      have ov711 := w705.over (by rw [c693]; omega)
      obtain ⟨v712, c713⟩ : ∃ v, I699 a0 9 = v := ⟨_, rfl⟩
      have b714 := iv15_9 hS706.1 ta0 c713
      obtain ⟨v715, c716⟩ : ∃ v, I699 a0 13 = v := ⟨_, rfl⟩
      obtain ⟨v717, c718⟩ : ∃ v, I699 a0 14 = v := ⟨_, rfl⟩
      (try rw [c713] at ov711)
      (try rw [c716] at ov711)
      (try rw [c718] at ov711)
      (try rw [c693] at ov711)
      (try rw [c696] at ov711)
      (try rw [c698] at ov711)
      refine tr_istore dX12_readCheese_42 (by decide) (by decide) ?_
      refine tr_aload_n dX12_readCheese_44 rfl ?_
      refine q_getI dX12_readCheese_45 fl12_99 (kR15 hS706.1 ta0) c713 ?_
      refine q_iconst dX12_readCheese_48 (by decide) ?_
      intro v719 h720
      refine q_icmp_ne 53 dX12_readCheese_49 (by decide) (fun h721 => ?_) (fun h721 => ?_)
      · skip
        exfalso; omega
      · skip
        have eF := hF.eq
        have eP := hP.eq
        obtain ⟨v722, c723⟩ : ∃ v, I699 a0 10 = v := ⟨_, rfl⟩
        have b724 := iv15_10 hS706.1 ta0 c723
        obtain ⟨v725, c726⟩ : ∃ v, I699 a0 11 = v := ⟨_, rfl⟩
        obtain ⟨y727, c728⟩ : ∃ v, L701 a0 15 = v := ⟨_, rfl⟩
        obtain ⟨v729, c730⟩ : ∃ v, I699 a0 12 = v := ⟨_, rfl⟩
        obtain ⟨v731, c732⟩ : ∃ v, I699 a0 8 = v := ⟨_, rfl⟩
        have b733 := iv15_8 hS706.1 ta0 c732
        exact tr_vret hZ dX12_readCheese_52 rfl (by decide) (by decide) ⟨rfl, rfl, rfl, rfl, rfl, hS706, (fun b hb => (Option.some.inj (d2.symm.trans hb)) ▸ (((((FrM.rf (R := R0) (b := a1) (T := T)).st g75 (by decide +kernel)).st g138 (by decide +kernel)).st g683 (by decide +kernel)).st g702 (by decide +kernel))), (fun dr hd => (Option.some.inj (d2.symm.trans hd)) ▸ hO710), (Or.inr (⟨(by (try rw [w125]); first | done | with_reducible assumption | omega), (by (try rw [w125]); (try rw [c713]); first | done | with_reducible assumption | omega), (by (try rw [w125]); (try rw [c716]); first | done | with_reducible assumption | omega), (by (try rw [w125]); (try rw [c718]); first | done | with_reducible assumption | omega), trivial⟩)), trivial⟩
  · skip
    obtain ⟨v734, c735⟩ : ∃ v, I72 a0 9 = v := ⟨_, rfl⟩
    have b736 := iv15_9 hS80.1 ta0 c735
    rw [c735] at p95
    obtain ⟨v737, c738⟩ : ∃ v, I72 a0 13 = v := ⟨_, rfl⟩
    rw [c738] at p96
    obtain ⟨v739, c740⟩ : ∃ v, I72 a0 14 = v := ⟨_, rfl⟩
    rw [c740] at p97
    have p741 := p61
    unfold Q7M at p741
    replace hF := hF.pos (by omega)
    replace hP := hP.pos (by omega)
    clear p741
    refine tr_aload_n dX12_readCheese_13 rfl ?_
    refine q_callVl hE (M' := mX12_readFresh) (as := []) dX12_readCheese_14 lk12_285 inX12_readFresh seX12_readFresh myX12_readFresh (by decide) ⟨by decide, by decide⟩ rfl (kR15 hS80.1 ta0) (Nat.le_of_ble_eq_true rfl) rfl rfl (by decide) (by decide) (k_X12_readFresh hS80.1 ta0 ⟨_, d2⟩) ?_
    rintro y746 cn' K' N' I742 R743 L744 ⟨rfl, rfl, rfl, rfl, g745, w747, -⟩
    have hS748 := hS80.tr g745 (by decide +kernel) (by decide +kernel)
    have c749 : I742 a1 3 = v41 := (g745.cell ta1 (by decide +kernel)).trans c81
    have hO750 : FrO 14 a1 T I0 I742 := hO82.st g745 (by decide +kernel)
    have ov751 := w747.over (by rw [c735]; omega)
    obtain ⟨v752, c753⟩ : ∃ v, I742 a0 9 = v := ⟨_, rfl⟩
    have b754 := iv15_9 hS748.1 ta0 c753
    obtain ⟨v755, c756⟩ : ∃ v, I742 a0 13 = v := ⟨_, rfl⟩
    obtain ⟨v757, c758⟩ : ∃ v, I742 a0 14 = v := ⟨_, rfl⟩
    (try rw [c753] at ov751)
    (try rw [c756] at ov751)
    (try rw [c758] at ov751)
    (try rw [c735] at ov751)
    (try rw [c738] at ov751)
    (try rw [c740] at ov751)
    refine tr_lstore_n dX12_readCheese_17 (by decide) (by decide) (by decide) ?_
    refine tr_aload_n dX12_readCheese_18 rfl ?_
    refine tr_ldcwS dX12_readCheese_19 ld12_289 ?_
    refine q_iconst dX12_readCheese_22 (by decide) ?_
    intro v759 h760
    refine tr_aload_n dX12_readCheese_23 rfl ?_
    refine tr_getR dX12_readCheese_24 fl12_188 (kR15 hS748.1 ta0) d2 ?_
    refine q_getI dX12_readCheese_27 fl12_263 (kR14 hS748.1 ta1) ((hS748.cell ta1 (by decide +kernel)).trans c34) ?_
    refine q_iconst dX12_readCheese_30 (by decide) ?_
    intro v761 h762
    refine q_isubE dX12_readCheese_31 (by intros; omega) ?_
    intro v763 h764
    refine q_callVi hE (M' := mX12_readPart) (as := [_, _, _]) dX12_readCheese_32 lk12_249 inX12_readPart seX12_readPart myX12_readPart (by decide) ⟨by decide, by decide⟩ rfl (kR15 hS748.1 ta0) (Nat.le_of_ble_eq_true rfl) rfl rfl (by decide) (by decide) (k_X12_readPart hS748.1 ta0 (by decide)) ?_
    rintro v769 cn' K' N' I765 R766 L767 ⟨rfl, rfl, rfl, rfl, g768, p770, w771, -⟩
    have hS772 := hS748.tr g768 (by decide +kernel) (by decide +kernel)
    have c773 : I765 a1 3 = v41 := (g768.cell ta1 (by decide +kernel)).trans c749
    have b774 : 0 ≤ v769.toInt ∧ v769.toInt ≤ 3 := by omega
    clear p770
    have hO775 : FrO 14 a1 T I0 I765 := hO750.st g768 (by decide +kernel)
    have ov776 := w771.over (by rw [c753]; omega)
    obtain ⟨v777, c778⟩ : ∃ v, I765 a0 9 = v := ⟨_, rfl⟩
    have b779 := iv15_9 hS772.1 ta0 c778
    obtain ⟨v780, c781⟩ : ∃ v, I765 a0 13 = v := ⟨_, rfl⟩
    obtain ⟨v782, c783⟩ : ∃ v, I765 a0 14 = v := ⟨_, rfl⟩
    (try rw [c778] at ov776)
    (try rw [c781] at ov776)
    (try rw [c783] at ov776)
    (try rw [c753] at ov776)
    (try rw [c756] at ov776)
    (try rw [c758] at ov776)
    refine tr_istore_n dX12_readCheese_35 (by decide) (by decide) ?_
    refine tr_aload_n dX12_readCheese_36 rfl ?_
    refine tr_ldcS dX12_readCheese_37 ld12_186 ?_
    refine q_callVi hE (M' := mX12_eatsWord) (as := [_]) dX12_readCheese_39 lk12_290 inX12_eatsWord seX12_eatsWord myX12_eatsWord (by decide) ⟨by decide, by decide⟩ rfl (kR15 hS772.1 ta0) (Nat.le_of_ble_eq_true rfl) rfl rfl (by decide) (by decide) (k_X12_eatsWord hS772.1 ta0 (by decide)) ?_
    rintro v788 cn' K' N' I784 R785 L786 ⟨rfl, rfl, rfl, rfl, g787, h789, w790, -⟩
    have hS791 := hS772.tr g787 (by decide +kernel) (by decide +kernel)
    have c792 : I784 a1 3 = v41 := (g787.cell ta1 (by decide +kernel)).trans c773
    have c793 : I784 a0 13 = v780 := (g787.cell ta0 (by decide +kernel)).trans c781
    have c794 : I784 a0 14 = v782 := (g787.cell ta0 (by decide +kernel)).trans c783
    have hO795 : FrO 14 a1 T I0 I784 := hO775.st g787 (by decide +kernel)
    have ov796 := w790.over (by rw [c778]; omega)
    obtain ⟨v797, c798⟩ : ∃ v, I784 a0 9 = v := ⟨_, rfl⟩
    have b799 := iv15_9 hS791.1 ta0 c798
    obtain ⟨v800, c801⟩ : ∃ v, I784 a0 13 = v := ⟨_, rfl⟩
    obtain ⟨v802, c803⟩ : ∃ v, I784 a0 14 = v := ⟨_, rfl⟩
    (try rw [c798] at ov796)
    (try rw [c801] at ov796)
    (try rw [c803] at ov796)
    (try rw [c778] at ov796)
    (try rw [c781] at ov796)
    (try rw [c783] at ov796)
    refine tr_istore dX12_readCheese_42 (by decide) (by decide) ?_
    refine tr_aload_n dX12_readCheese_44 rfl ?_
    refine q_getI dX12_readCheese_45 fl12_99 (kR15 hS791.1 ta0) c798 ?_
    refine q_iconst dX12_readCheese_48 (by decide) ?_
    intro v804 h805
    refine q_icmp_ne 53 dX12_readCheese_49 (by decide) (fun h806 => ?_) (fun h806 => ?_)
    · skip
      exfalso; omega
    · skip
      have eF := hF.eq
      have eP := hP.eq
      obtain ⟨v807, c808⟩ : ∃ v, I784 a0 10 = v := ⟨_, rfl⟩
      have b809 := iv15_10 hS791.1 ta0 c808
      obtain ⟨v810, c811⟩ : ∃ v, I784 a0 11 = v := ⟨_, rfl⟩
      obtain ⟨y812, c813⟩ : ∃ v, L786 a0 15 = v := ⟨_, rfl⟩
      obtain ⟨v814, c815⟩ : ∃ v, I784 a0 12 = v := ⟨_, rfl⟩
      obtain ⟨v816, c817⟩ : ∃ v, I784 a0 8 = v := ⟨_, rfl⟩
      have b818 := iv15_8 hS791.1 ta0 c817
      exact tr_vret hZ dX12_readCheese_52 rfl (by decide) (by decide) ⟨rfl, rfl, rfl, rfl, rfl, hS791, (fun b hb => (Option.some.inj (d2.symm.trans hb)) ▸ (((((FrM.rf (R := R0) (b := a1) (T := T)).st g75 (by decide +kernel)).st g745 (by decide +kernel)).st g768 (by decide +kernel)).st g787 (by decide +kernel))), (fun dr hd => (Option.some.inj (d2.symm.trans hd)) ▸ hO795), (Or.inr (⟨(by first | done | with_reducible assumption | omega), (by (try rw [c798]); first | done | with_reducible assumption | omega), (by (try rw [c801]); first | done | with_reducible assumption | omega), (by (try rw [c803]); first | done | with_reducible assumption | omega), trivial⟩)), trivial⟩
  · skip
    obtain ⟨v819, c820⟩ : ∃ v, I72 a0 9 = v := ⟨_, rfl⟩
    have b821 := iv15_9 hS80.1 ta0 c820
    rw [c820] at p100
    obtain ⟨v822, c823⟩ : ∃ v, I72 a0 13 = v := ⟨_, rfl⟩
    rw [c823] at p101
    obtain ⟨v824, c825⟩ : ∃ v, I72 a0 14 = v := ⟨_, rfl⟩
    rw [c825] at p102
    have p826 := p61
    unfold Q7M at p826
    replace hF := hF.neg (by omega)
    replace hP := hP.neg (by omega)
    replace hF := hF.pos (by omega)
    replace hP := hP.pos (by omega)
    clear p826
    refine tr_aload_n dX12_readCheese_13 rfl ?_
    refine q_callVl hE (M' := mX12_readFresh) (as := []) dX12_readCheese_14 lk12_285 inX12_readFresh seX12_readFresh myX12_readFresh (by decide) ⟨by decide, by decide⟩ rfl (kR15 hS80.1 ta0) (Nat.le_of_ble_eq_true rfl) rfl rfl (by decide) (by decide) (k_X12_readFresh hS80.1 ta0 ⟨_, d2⟩) ?_
    rintro y831 cn' K' N' I827 R828 L829 ⟨rfl, rfl, rfl, rfl, g830, w832, -⟩
    have hS833 := hS80.tr g830 (by decide +kernel) (by decide +kernel)
    have c834 : I827 a1 3 = v41 := (g830.cell ta1 (by decide +kernel)).trans c81
    have hO835 : FrO 14 a1 T I0 I827 := hO82.st g830 (by decide +kernel)
    have ov836 := w832.over (by rw [c820]; omega)
    obtain ⟨v837, c838⟩ : ∃ v, I827 a0 9 = v := ⟨_, rfl⟩
    have b839 := iv15_9 hS833.1 ta0 c838
    obtain ⟨v840, c841⟩ : ∃ v, I827 a0 13 = v := ⟨_, rfl⟩
    obtain ⟨v842, c843⟩ : ∃ v, I827 a0 14 = v := ⟨_, rfl⟩
    (try rw [c838] at ov836)
    (try rw [c841] at ov836)
    (try rw [c843] at ov836)
    (try rw [c820] at ov836)
    (try rw [c823] at ov836)
    (try rw [c825] at ov836)
    refine tr_lstore_n dX12_readCheese_17 (by decide) (by decide) (by decide) ?_
    refine tr_aload_n dX12_readCheese_18 rfl ?_
    refine tr_ldcwS dX12_readCheese_19 ld12_289 ?_
    refine q_iconst dX12_readCheese_22 (by decide) ?_
    intro v844 h845
    refine tr_aload_n dX12_readCheese_23 rfl ?_
    refine tr_getR dX12_readCheese_24 fl12_188 (kR15 hS833.1 ta0) d2 ?_
    refine q_getI dX12_readCheese_27 fl12_263 (kR14 hS833.1 ta1) ((hS833.cell ta1 (by decide +kernel)).trans c34) ?_
    refine q_iconst dX12_readCheese_30 (by decide) ?_
    intro v846 h847
    refine q_isubE dX12_readCheese_31 (by intros; omega) ?_
    intro v848 h849
    refine q_callVi hE (M' := mX12_readPart) (as := [_, _, _]) dX12_readCheese_32 lk12_249 inX12_readPart seX12_readPart myX12_readPart (by decide) ⟨by decide, by decide⟩ rfl (kR15 hS833.1 ta0) (Nat.le_of_ble_eq_true rfl) rfl rfl (by decide) (by decide) (k_X12_readPart hS833.1 ta0 (by decide)) ?_
    rintro v854 cn' K' N' I850 R851 L852 ⟨rfl, rfl, rfl, rfl, g853, p855, w856, -⟩
    have hS857 := hS833.tr g853 (by decide +kernel) (by decide +kernel)
    have c858 : I850 a1 3 = v41 := (g853.cell ta1 (by decide +kernel)).trans c834
    have b859 : 0 ≤ v854.toInt ∧ v854.toInt ≤ 3 := by omega
    clear p855
    have hO860 : FrO 14 a1 T I0 I850 := hO835.st g853 (by decide +kernel)
    have ov861 := w856.over (by rw [c838]; omega)
    obtain ⟨v862, c863⟩ : ∃ v, I850 a0 9 = v := ⟨_, rfl⟩
    have b864 := iv15_9 hS857.1 ta0 c863
    obtain ⟨v865, c866⟩ : ∃ v, I850 a0 13 = v := ⟨_, rfl⟩
    obtain ⟨v867, c868⟩ : ∃ v, I850 a0 14 = v := ⟨_, rfl⟩
    (try rw [c863] at ov861)
    (try rw [c866] at ov861)
    (try rw [c868] at ov861)
    (try rw [c838] at ov861)
    (try rw [c841] at ov861)
    (try rw [c843] at ov861)
    refine tr_istore_n dX12_readCheese_35 (by decide) (by decide) ?_
    refine tr_aload_n dX12_readCheese_36 rfl ?_
    refine tr_ldcS dX12_readCheese_37 ld12_186 ?_
    refine q_callVi hE (M' := mX12_eatsWord) (as := [_]) dX12_readCheese_39 lk12_290 inX12_eatsWord seX12_eatsWord myX12_eatsWord (by decide) ⟨by decide, by decide⟩ rfl (kR15 hS857.1 ta0) (Nat.le_of_ble_eq_true rfl) rfl rfl (by decide) (by decide) (k_X12_eatsWord hS857.1 ta0 (by decide)) ?_
    rintro v873 cn' K' N' I869 R870 L871 ⟨rfl, rfl, rfl, rfl, g872, h874, w875, -⟩
    have hS876 := hS857.tr g872 (by decide +kernel) (by decide +kernel)
    have c877 : I869 a1 3 = v41 := (g872.cell ta1 (by decide +kernel)).trans c858
    have c878 : I869 a0 13 = v865 := (g872.cell ta0 (by decide +kernel)).trans c866
    have c879 : I869 a0 14 = v867 := (g872.cell ta0 (by decide +kernel)).trans c868
    have hO880 : FrO 14 a1 T I0 I869 := hO860.st g872 (by decide +kernel)
    have ov881 := w875.over (by rw [c863]; omega)
    obtain ⟨v882, c883⟩ : ∃ v, I869 a0 9 = v := ⟨_, rfl⟩
    have b884 := iv15_9 hS876.1 ta0 c883
    obtain ⟨v885, c886⟩ : ∃ v, I869 a0 13 = v := ⟨_, rfl⟩
    obtain ⟨v887, c888⟩ : ∃ v, I869 a0 14 = v := ⟨_, rfl⟩
    (try rw [c883] at ov881)
    (try rw [c886] at ov881)
    (try rw [c888] at ov881)
    (try rw [c863] at ov881)
    (try rw [c866] at ov881)
    (try rw [c868] at ov881)
    refine tr_istore dX12_readCheese_42 (by decide) (by decide) ?_
    refine tr_aload_n dX12_readCheese_44 rfl ?_
    refine q_getI dX12_readCheese_45 fl12_99 (kR15 hS876.1 ta0) c883 ?_
    refine q_iconst dX12_readCheese_48 (by decide) ?_
    intro v889 h890
    refine q_icmp_ne 53 dX12_readCheese_49 (by decide) (fun h891 => ?_) (fun h891 => ?_)
    · skip
      exfalso; omega
    · skip
      have eF := hF.eq
      have eP := hP.eq
      obtain ⟨v892, c893⟩ : ∃ v, I869 a0 10 = v := ⟨_, rfl⟩
      have b894 := iv15_10 hS876.1 ta0 c893
      obtain ⟨v895, c896⟩ : ∃ v, I869 a0 11 = v := ⟨_, rfl⟩
      obtain ⟨y897, c898⟩ : ∃ v, L871 a0 15 = v := ⟨_, rfl⟩
      obtain ⟨v899, c900⟩ : ∃ v, I869 a0 12 = v := ⟨_, rfl⟩
      obtain ⟨v901, c902⟩ : ∃ v, I869 a0 8 = v := ⟨_, rfl⟩
      have b903 := iv15_8 hS876.1 ta0 c902
      exact tr_vret hZ dX12_readCheese_52 rfl (by decide) (by decide) ⟨rfl, rfl, rfl, rfl, rfl, hS876, (fun b hb => (Option.some.inj (d2.symm.trans hb)) ▸ (((((FrM.rf (R := R0) (b := a1) (T := T)).st g75 (by decide +kernel)).st g830 (by decide +kernel)).st g853 (by decide +kernel)).st g872 (by decide +kernel))), (fun dr hd => (Option.some.inj (d2.symm.trans hd)) ▸ hO880), (Or.inr (⟨(by first | done | with_reducible assumption | omega), (by (try rw [c883]); first | done | with_reducible assumption | omega), (by (try rw [c886]); first | done | with_reducible assumption | omega), (by (try rw [c888]); first | done | with_reducible assumption | omega), trivial⟩)), trivial⟩
