def wik_X12_readEvent : List Nat := [898, 968, 969, 970, 971, 972, 973, 974, 3519, 3583, 3647, 3711]
def wrk_X12_readEvent : List Nat := []
def wlk_X12_readEvent : List Nat := [975]
set_option maxHeartbeats 4000000 in
theorem fk_X12_readEvent {l : Launch} {T : Nat → Nat} {cn : Nat} {K N : Nat → Nat} {I0 : cz_I} {R0 : cz_R} {L0 : cz_L} (hW0 : Wf T cn K N I0 R0 0) (gB : cz_B) (gs : Int) (gQ : Nat → Int) {a0 : Nat} (ta0 : T a0 = 15) {x1 : Int32} (hx1 : 0 ≤ x1.toInt ∧ x1.toInt ≤ 4) (hT : ∀ t, R0 a0 5 = some t → Tx I0 t gB) (hN : ∀ b, R0 a0 4 = some b → NmM I0 R0 L0 b gQ) (pre0 : (I0 a0 9).toInt = (tkM gB gs)) (pre1 : (I0 a0 9).toInt ≤ 4) (pre2 : (I0 a0 10).toInt = (tkS gB gs)) (pre3 : (I0 a0 11).toInt = (tkG gB gs)) (pre4 : (AtW ((tkK gB gs)) ((L0 a0 15).toInt) ((tkW gB gs)))) (pre5 : (AtV ((tkK gB gs)) ((I0 a0 12).toInt) ((tkV gB gs)))) (pre6 : (AtN ((tkK gB gs)) ((I0 a0 8).toInt) ((tkN gB gs)))) (pre7 : (I0 a0 7).toInt = (gB.2)) (pre8 : ∀ b1, R0 a0 4 = some b1 → (I0 b1 0).toInt = (gQ 0)) (pre9 : ∀ b1, R0 a0 4 = some b1 → (I0 b1 1).toInt = (gQ 1)) (pre10 : ∀ b1, R0 a0 4 = some b1 → (I0 b1 2).toInt = (gQ 2)) (pre11 : ∀ b1, R0 a0 4 = some b1 → (I0 b1 3).toInt = (gQ 3)) (pre12 : ∀ b1, R0 a0 4 = some b1 → (I0 b1 4).toInt = (gQ 4)) (pre13 : ∀ b1, R0 a0 4 = some b1 → (I0 b1 5).toInt = (gQ 5)) (pre14 : ∀ b1, R0 a0 4 = some b1 → (I0 b1 6).toInt = (gQ 6)) (pre15 : ∀ b1, R0 a0 4 = some b1 → (I0 b1 9).toInt = (gQ 8)) (pre16 : (Q7M ((gQ 0)) ((gQ 7)))) (pre17 : (tkK gB gs) = 1) (pre18 : (srt gB gs) = x1.toInt) (nn4 : ∃ b, R0 a0 4 = some b) : ConE l mX12_readEvent [.ref a0, .int x1] cn K N I0 R0 L0 (ca_v (fun cn' K' N' I' R' L' => cn = cn' ∧ K = K' ∧ N = N' ∧ R0 = R' ∧ St T cn K N 0 wik_X12_readEvent wrk_X12_readEvent I0 R0 I' R0 ∧ (∀ dr, R0 a0 4 = some dr → FrO 14 dr T I0 I') ∧ ((((lnF gB gQ gs) = 0) ∧ (∀ b1, R0 a0 4 = some b1 → (I' b1 0).toInt = (lnQ gB gQ gs 0)) ∧ (∀ b1, R0 a0 4 = some b1 → (I' b1 1).toInt = (lnQ gB gQ gs 1)) ∧ (∀ b1, R0 a0 4 = some b1 → (I' b1 2).toInt = (lnQ gB gQ gs 2)) ∧ (∀ b1, R0 a0 4 = some b1 → (I' b1 3).toInt = (lnQ gB gQ gs 3)) ∧ (∀ b1, R0 a0 4 = some b1 → (I' b1 4).toInt = (lnQ gB gQ gs 4)) ∧ (∀ b1, R0 a0 4 = some b1 → (I' b1 5).toInt = (lnQ gB gQ gs 5)) ∧ (∀ b1, R0 a0 4 = some b1 → (I' b1 6).toInt = (lnQ gB gQ gs 6)) ∧ (∀ b1, R0 a0 4 = some b1 → (I' b1 9).toInt = (lnQ gB gQ gs 8)) ∧ ((I' a0 13).toInt = (I0 a0 13).toInt) ∧ ((I' a0 9).toInt = (tkM gB (lnS gB gQ gs))) ∧ ((I' a0 9).toInt ≤ 4) ∧ ((I' a0 10).toInt = (tkS gB (lnS gB gQ gs))) ∧ ((I' a0 11).toInt = (tkG gB (lnS gB gQ gs))) ∧ ((AtW ((tkK gB (lnS gB gQ gs))) ((L' a0 15).toInt) ((tkW gB (lnS gB gQ gs))))) ∧ ((AtV ((tkK gB (lnS gB gQ gs))) ((I' a0 12).toInt) ((tkV gB (lnS gB gQ gs))))) ∧ ((AtN ((tkK gB (lnS gB gQ gs))) ((I' a0 8).toInt) ((tkN gB (lnS gB gQ gs))))) ∧ LgS T wlk_X12_readEvent L0 L' ∧ (∀ b, R0 a0 4 = some b → NmM I' R0 L' b (lnQ gB gQ gs)) ∧ True) ∨ (((lnF gB gQ gs) ≠ 0) ∧ ((I' a0 9).toInt = 5) ∧ ((I' a0 13).toInt = (lnF gB gQ gs)) ∧ ((I' a0 14).toInt = (lnP gB gQ gs)) ∧ True)) ∧ True)) := by
  refine ConE.of (by decide +kernel) rfl (Nat.le_of_ble_eq_true rfl) rfl (fun X hX hZ hE => ?_)
  subst hX
  have hS0 : St T cn K N 0 wik_X12_readEvent wrk_X12_readEvent I0 R0 I0 R0 := St.rf0 hW0
  have hL0 : LgS T wlk_X12_readEvent L0 L0 := LgS.rf0
  obtain ⟨a1, d2⟩ := nn4
  have ta1 : T a1 = 14 := hW0.rsN ta0 rfl d2
  obtain ⟨v3, c4⟩ : ∃ v, I0 a0 9 = v := ⟨_, rfl⟩
  have b5 := iv15_9 hS0.1 ta0 c4
  have p6 := pre0
  rw [c4] at p6
  have p7 := pre1
  rw [c4] at p7
  obtain ⟨v8, c9⟩ : ∃ v, I0 a0 10 = v := ⟨_, rfl⟩
  have b10 := iv15_10 hS0.1 ta0 c9
  have p11 := pre2
  rw [c9] at p11
  obtain ⟨v12, c13⟩ : ∃ v, I0 a0 11 = v := ⟨_, rfl⟩
  have p14 := pre3
  rw [c13] at p14
  obtain ⟨y15, c16⟩ : ∃ v, L0 a0 15 = v := ⟨_, rfl⟩
  have p17 := pre4
  rw [c16] at p17
  obtain ⟨v18, c19⟩ : ∃ v, I0 a0 12 = v := ⟨_, rfl⟩
  have p20 := pre5
  rw [c19] at p20
  obtain ⟨v21, c22⟩ : ∃ v, I0 a0 8 = v := ⟨_, rfl⟩
  have b23 := iv15_8 hS0.1 ta0 c22
  have p24 := pre6
  rw [c22] at p24
  obtain ⟨v25, c26⟩ : ∃ v, I0 a0 7 = v := ⟨_, rfl⟩
  have b27 := iv15_7 hW0 ta0 c26
  have p28 := pre7
  rw [c26] at p28
  obtain ⟨v29, c30⟩ : ∃ v, I0 a1 0 = v := ⟨_, rfl⟩
  have b31 := iv14_0 hW0 ta1 c30
  have p32 := pre8 _ d2
  rw [c30] at p32
  obtain ⟨v33, c34⟩ : ∃ v, I0 a1 1 = v := ⟨_, rfl⟩
  have b35 := iv14_1 hW0 ta1 c34
  have p36 := pre9 _ d2
  rw [c34] at p36
  obtain ⟨v37, c38⟩ : ∃ v, I0 a1 2 = v := ⟨_, rfl⟩
  have b39 := iv14_2 hS0.1 ta1 c38
  have p40 := pre10 _ d2
  rw [c38] at p40
  obtain ⟨v41, c42⟩ : ∃ v, I0 a1 3 = v := ⟨_, rfl⟩
  have b43 := iv14_3 hW0 ta1 c42
  have p44 := pre11 _ d2
  rw [c42] at p44
  obtain ⟨v45, c46⟩ : ∃ v, I0 a1 4 = v := ⟨_, rfl⟩
  have b47 := iv14_4 hW0 ta1 c46
  have p48 := pre12 _ d2
  rw [c46] at p48
  obtain ⟨v49, c50⟩ : ∃ v, I0 a1 5 = v := ⟨_, rfl⟩
  have b51 := iv14_5 hW0 ta1 c50
  have p52 := pre13 _ d2
  rw [c50] at p52
  obtain ⟨v53, c54⟩ : ∃ v, I0 a1 6 = v := ⟨_, rfl⟩
  have b55 := iv14_6 hW0 ta1 c54
  have p56 := pre14 _ d2
  rw [c54] at p56
  obtain ⟨v57, c58⟩ : ∃ v, I0 a1 9 = v := ⟨_, rfl⟩
  have b59 := iv14_9 hW0 ta1 c58
  have p60 := pre15 _ d2
  rw [c58] at p60
  have p61 := pre16
  have p62 := pre17
  have p63 := pre18
  obtain ⟨v64, c65⟩ : ∃ v, I0 a0 13 = v := ⟨_, rfl⟩
  have hM0 := hN _ d2
  have hO0 : FrO 14 a1 T I0 I0 := FrO.rf
  have hF := lnF_ch gB gQ gs
  have hP := lnP_ch gB gQ gs
  replace hF := hF.neg (by omega)
  replace hP := hP.neg (by omega)
  replace hF := hF.neg (by omega)
  replace hP := hP.neg (by omega)
  have kd66 : x1.toInt = 0 ∨ x1.toInt = 1 ∨ x1.toInt = 2 ∨ x1.toInt = 3 ∨ x1.toInt = 4 := by omega
  rcases kd66 with kd66 | kd66 | kd66 | kd66 | kd66
  · skip
    refine tr_aload_n dX12_readEvent_0 rfl ?_
    refine tr_aload_n dX12_readEvent_1 rfl ?_
    refine tr_getR dX12_readEvent_2 fl12_188 (kR15 hS0.1 ta0) d2 ?_
    refine q_getI dX12_readEvent_5 fl12_265 (kR14 hS0.1 ta1) c38 ?_
    refine q_bipush dX12_readEvent_8 (by decide +kernel) ?_
    intro v67 h68
    refine q_callVv hE (M' := mX12_begins) (as := [_, _]) dX12_readEvent_10 lk12_268 inX12_begins seX12_begins myX12_begins (by decide) ⟨by decide, by decide⟩ rfl (kR15 hS0.1 ta0) (Nat.le_of_ble_eq_true rfl) rfl rfl (by decide) (by decide) (fk_X12_begins hS0.1 (gB) (gs) (gQ) ta0 (TxA.kp hT hS0 ta0 rfl rfl rfl (by decide +kernel) (by decide +kernel)) (by (try rw [c4]); first | done | with_reducible assumption | omega) (by (try rw [c4]); first | done | with_reducible assumption | omega) (by (try rw [c9]); first | done | with_reducible assumption | omega) (by (try rw [c13]); first | done | with_reducible assumption | omega) (by (try rw [c16]); first | done | assumption) (by (try rw [c19]); first | done | assumption) (by (try rw [c22]); first | done | assumption) (by (try rw [c26]); first | done | with_reducible assumption | omega) (fun q0 z0 => by obtain rfl := Option.some.inj ((d2).symm.trans z0); (try rw [c30]); first | done | with_reducible assumption | omega) (by first | done | with_reducible assumption | omega) ⟨_, d2⟩) ?_
    rintro cn' K' N' I69 R70 L71 ⟨rfl, rfl, rfl, rfl, g72, dj75, -⟩
    have hM76 : NmM I69 R0 L0 a1 gQ := NmM.kpS hM0 g72 hS0.1 ta1 (by decide +kernel) (by decide +kernel)
    have hS77 := hS0.tr g72 (by decide +kernel) (by decide +kernel)
    have c78 : I69 a1 2 = v37 := (g72.cell ta1 (by decide +kernel)).trans c38
    have hO79 : FrO 14 a1 T I0 I69 := hO0.st g72 (by decide +kernel)
    rcases dj75 with ⟨p80, p81, p82, p83, p84, p85, p86, p87, p88, p89, gl90, -⟩ | ⟨p91, p92, p93, p94, -⟩ | ⟨p95, p96, p97, p98, p99, -⟩
    · skip
      have hL100 := hL0.tr gl90 (by decide +kernel)
      have hM101 : NmM I69 R0 L71 a1 gQ := NmM.kpL hM76 gl90 hS77.1 ta1 (by decide +kernel)
      obtain ⟨v102, c103⟩ : ∃ v, I69 a0 13 = v := ⟨_, rfl⟩
      rw [c103] at p82
      rw [c65] at p82
      obtain ⟨v104, c105⟩ : ∃ v, I69 a0 9 = v := ⟨_, rfl⟩
      have b106 := iv15_9 hS77.1 ta0 c105
      rw [c105] at p83
      rw [c105] at p84
      obtain ⟨v107, c108⟩ : ∃ v, I69 a0 10 = v := ⟨_, rfl⟩
      have b109 := iv15_10 hS77.1 ta0 c108
      rw [c108] at p85
      obtain ⟨v110, c111⟩ : ∃ v, I69 a0 11 = v := ⟨_, rfl⟩
      rw [c111] at p86
      obtain ⟨y112, c113⟩ : ∃ v, L71 a0 15 = v := ⟨_, rfl⟩
      rw [c113] at p87
      obtain ⟨v114, c115⟩ : ∃ v, I69 a0 12 = v := ⟨_, rfl⟩
      rw [c115] at p88
      obtain ⟨v116, c117⟩ : ∃ v, I69 a0 8 = v := ⟨_, rfl⟩
      have b118 := iv15_8 hS77.1 ta0 c117
      rw [c117] at p89
      have p119 := p61
      unfold Q7M at p119
      replace hF := hF.neg (by omega)
      replace hP := hP.neg (by omega)
      replace hF := hF.neg (by omega)
      replace hP := hP.neg (by omega)
      clear p119
      obtain ⟨w120, w121, w122, w123, w124, w125, w126, w127, w128, w129, w130, w131⟩ := lnl_e (B := gB) (Q := gQ) (s := gs) (by omega) (by omega)
      replace hF := hF.to w120 (evF_c0 (B := gB) (Q := gQ) (k := srt gB gs) (s := (tkN gB gs)) (by omega) (by omega))
      replace hP := hP.to w121 (evP_c0 (B := gB) (Q := gQ) (k := srt gB gs) (s := (tkN gB gs)) (by omega) (by omega))
      refine tr_iload_n dX12_readEvent_13 rfl ?_
      refine q_iconst dX12_readEvent_14 (by decide) ?_
      intro v132 h133
      refine q_icmp_eq 23 dX12_readEvent_15 (by decide) (fun h134 => ?_) (fun h134 => ?_)
      · skip
        exfalso; omega
      · skip
        refine tr_iload_n dX12_readEvent_18 rfl ?_
        refine q_iconst dX12_readEvent_19 (by decide) ?_
        intro v135 h136
        refine q_icmp_ne 40 dX12_readEvent_20 (by decide) (fun h137 => ?_) (fun h137 => ?_)
        · skip
          refine q_bipush dX12_readEvent_40 (by decide +kernel) ?_
          intro v138 h139
          refine tr_istore_n dX12_readEvent_42 (by decide) (by decide) ?_
          refine tr_aload_n dX12_readEvent_43 rfl ?_
          refine q_iconst dX12_readEvent_44 (by decide) ?_
          intro v140 h141
          refine tr_aload_n dX12_readEvent_45 rfl ?_
          refine tr_getR dX12_readEvent_46 fl12_188 (kR15 hS77.1 ta0) d2 ?_
          refine q_getI dX12_readEvent_49 fl12_192 (kR14 hS77.1 ta1) ((hS77.cell ta1 (by decide +kernel)).trans c30) ?_
          refine q_iconst dX12_readEvent_52 (by decide) ?_
          intro v142 h143
          refine q_isubE dX12_readEvent_53 (by intros; omega) ?_
          intro v144 h145
          refine q_callVi hE (M' := mX12_readWhole) (as := [_, _]) dX12_readEvent_54 lk12_161 inX12_readWhole seX12_readWhole myX12_readWhole (by decide) ⟨by decide, by decide⟩ rfl (kR15 hS77.1 ta0) (Nat.le_of_ble_eq_true rfl) rfl rfl (by decide) (by decide) (fk_X12_readWhole hS77.1 (gB) ((tkN gB gs)) ta0 (TxA.kp hT hS77 ta0 rfl rfl rfl (by decide +kernel) (by decide +kernel)) (by (try rw [c105]); first | done | with_reducible assumption | omega) (by (try rw [c105]); first | done | with_reducible assumption | omega) (by (try rw [c108]); first | done | with_reducible assumption | omega) (by (try rw [c111]); first | done | with_reducible assumption | omega) (by (try rw [c113]); first | done | assumption) (by (try rw [c115]); first | done | assumption) (by (try rw [c117]); first | done | assumption) (by (try rw [((hS77.cell ta0 (by decide +kernel)).trans c26)]); first | done | with_reducible assumption | omega)) ?_
          rintro v151 cn' K' N' I146 R147 L148 ⟨rfl, rfl, rfl, rfl, g149, dj152, -⟩
          have hM153 : NmM I146 R0 L71 a1 gQ := NmM.kpS hM101 g149 hS77.1 ta1 (by decide +kernel) (by decide +kernel)
          have hS154 := hS77.tr g149 (by decide +kernel) (by decide +kernel)
          have c155 : I146 a1 2 = v37 := (g149.cell ta1 (by decide +kernel)).trans c78
          have hO156 : FrO 14 a1 T I0 I146 := hO79.st g149 (by decide +kernel)
          rcases dj152 with ⟨p157, p158, p159, p160, p161, p162, p163, p164, p165, p166, p167, p168, gl169, -⟩ | ⟨p170, p171, p172, p173, p174, -⟩ | ⟨p175, p176, p177, p178, p179, p180, -⟩
          · skip
            have hL181 := hL100.tr gl169 (by decide +kernel)
            have hM182 : NmM I146 R0 L148 a1 gQ := NmM.kpL hM153 gl169 hS154.1 ta1 (by decide +kernel)
            obtain ⟨v183, c184⟩ : ∃ v, I146 a0 13 = v := ⟨_, rfl⟩
            rw [c184] at p161
            rw [c103] at p161
            obtain ⟨v185, c186⟩ : ∃ v, I146 a0 9 = v := ⟨_, rfl⟩
            have b187 := iv15_9 hS154.1 ta0 c186
            rw [c186] at p162
            rw [c186] at p163
            obtain ⟨v188, c189⟩ : ∃ v, I146 a0 10 = v := ⟨_, rfl⟩
            have b190 := iv15_10 hS154.1 ta0 c189
            rw [c189] at p164
            obtain ⟨v191, c192⟩ : ∃ v, I146 a0 11 = v := ⟨_, rfl⟩
            rw [c192] at p165
            obtain ⟨y193, c194⟩ : ∃ v, L148 a0 15 = v := ⟨_, rfl⟩
            rw [c194] at p166
            obtain ⟨v195, c196⟩ : ∃ v, I146 a0 12 = v := ⟨_, rfl⟩
            rw [c196] at p167
            obtain ⟨v197, c198⟩ : ∃ v, I146 a0 8 = v := ⟨_, rfl⟩
            have b199 := iv15_8 hS154.1 ta0 c198
            rw [c198] at p168
            replace hF := hF.neg (by omega)
            replace hP := hP.neg (by omega)
            replace hF := hF.neg (by omega)
            replace hP := hP.neg (by omega)
            refine tr_istore_n dX12_readEvent_57 (by decide) (by decide) ?_
            refine tr_iload_n dX12_readEvent_58 rfl ?_
            refine q_iconst dX12_readEvent_59 (by decide) ?_
            intro v200 h201
            refine q_icmp_ne 69 dX12_readEvent_60 (by decide) (fun h202 => ?_) (fun h202 => ?_)
            · skip
              refine tr_aload_n dX12_readEvent_69 rfl ?_
              refine tr_ldcwS dX12_readEvent_70 ld12_272 ?_
              refine tr_iload_n dX12_readEvent_73 rfl ?_
              refine q_iconst dX12_readEvent_74 (by decide) ?_
              intro v203 h204
              refine q_iaddE dX12_readEvent_75 (by intros; omega) ?_
              intro v205 h206
              refine tr_aload_n dX12_readEvent_76 rfl ?_
              refine tr_getR dX12_readEvent_77 fl12_188 (kR15 hS154.1 ta0) d2 ?_
              refine q_getI dX12_readEvent_80 fl12_192 (kR14 hS154.1 ta1) ((hS154.cell ta1 (by decide +kernel)).trans c30) ?_
              refine q_callVi hE (M' := mX12_readPart) (as := [_, _, _]) dX12_readEvent_83 lk12_249 inX12_readPart seX12_readPart myX12_readPart (by decide) ⟨by decide, by decide⟩ rfl (kR15 hS154.1 ta0) (Nat.le_of_ble_eq_true rfl) rfl rfl (by decide) (by decide) (fk_X12_readPart hS154.1 (gB) ((tkN gB (tkN gB gs))) ta0 (by decide) (TxA.kp hT hS154 ta0 rfl rfl rfl (by decide +kernel) (by decide +kernel)) (by (try rw [c186]); first | done | with_reducible assumption | omega) (by (try rw [c186]); first | done | with_reducible assumption | omega) (by (try rw [c189]); first | done | with_reducible assumption | omega) (by (try rw [c192]); first | done | with_reducible assumption | omega) (by (try rw [c194]); first | done | assumption) (by (try rw [c196]); first | done | assumption) (by (try rw [c198]); first | done | assumption) (by (try rw [((hS154.cell ta0 (by decide +kernel)).trans c26)]); first | done | with_reducible assumption | omega)) ?_
              rintro v212 cn' K' N' I207 R208 L209 ⟨rfl, rfl, rfl, rfl, g210, dj213, -⟩
              (try rw [pk_25] at dj213)
              have hM214 : NmM I207 R0 L148 a1 gQ := NmM.kpS hM182 g210 hS154.1 ta1 (by decide +kernel) (by decide +kernel)
              have hS215 := hS154.tr g210 (by decide +kernel) (by decide +kernel)
              have c216 : I207 a1 2 = v37 := (g210.cell ta1 (by decide +kernel)).trans c155
              have hO217 : FrO 14 a1 T I0 I207 := hO156.st g210 (by decide +kernel)
              rcases dj213 with ⟨p218, p219, p220, p221, p222, p223, p224, p225, p226, p227, p228, p229, p230, p231, gl232, -⟩ | ⟨p233, p234, p235, p236, p237, -⟩ | ⟨p238, p239, p240, p241, p242, p243, p244, -⟩ | ⟨p245, p246, p247, p248, p249, p250, p251, p252, -⟩
              · skip
                have hL253 := hL181.tr gl232 (by decide +kernel)
                have hM254 : NmM I207 R0 L209 a1 gQ := NmM.kpL hM214 gl232 hS215.1 ta1 (by decide +kernel)
                obtain ⟨v255, c256⟩ : ∃ v, I207 a0 13 = v := ⟨_, rfl⟩
                rw [c256] at p224
                rw [c184] at p224
                obtain ⟨v257, c258⟩ : ∃ v, I207 a0 9 = v := ⟨_, rfl⟩
                have b259 := iv15_9 hS215.1 ta0 c258
                rw [c258] at p225
                rw [c258] at p226
                obtain ⟨v260, c261⟩ : ∃ v, I207 a0 10 = v := ⟨_, rfl⟩
                have b262 := iv15_10 hS215.1 ta0 c261
                rw [c261] at p227
                obtain ⟨v263, c264⟩ : ∃ v, I207 a0 11 = v := ⟨_, rfl⟩
                rw [c264] at p228
                obtain ⟨y265, c266⟩ : ∃ v, L209 a0 15 = v := ⟨_, rfl⟩
                rw [c266] at p229
                obtain ⟨v267, c268⟩ : ∃ v, I207 a0 12 = v := ⟨_, rfl⟩
                rw [c268] at p230
                obtain ⟨v269, c270⟩ : ∃ v, I207 a0 8 = v := ⟨_, rfl⟩
                have b271 := iv15_8 hS215.1 ta0 c270
                rw [c270] at p231
                replace hF := hF.neg (by omega)
                replace hP := hP.neg (by omega)
                replace hF := hF.neg (by omega)
                replace hP := hP.neg (by omega)
                replace hF := hF.neg (by omega)
                replace hP := hP.neg (by omega)
                refine tr_istore dX12_readEvent_86 (by decide) (by decide) ?_
                refine tr_aload_n dX12_readEvent_88 rfl ?_
                refine q_getI dX12_readEvent_89 fl12_99 (kR15 hS215.1 ta0) c258 ?_
                refine q_iconst dX12_readEvent_92 (by decide) ?_
                intro v272 h273
                refine q_icmp_ne 97 dX12_readEvent_93 (by decide) (fun h274 => ?_) (fun h274 => ?_)
                · skip
                  refine tr_aload_n dX12_readEvent_97 rfl ?_
                  refine tr_getR dX12_readEvent_98 fl12_188 (kR15 hS215.1 ta0) d2 ?_
                  refine q_getI dX12_readEvent_101 fl12_265 (kR14 hS215.1 ta1) c216 ?_
                  refine tr_istore dX12_readEvent_104 (by decide) (by decide) ?_
                  refine tr_aload_n dX12_readEvent_106 rfl ?_
                  refine tr_getR dX12_readEvent_107 fl12_188 (kR15 hS215.1 ta0) d2 ?_
                  obtain ⟨a275, d276, ta275⟩ := rf14_11 hW0 ta1
                  refine tr_getR dX12_readEvent_110 fl12_274 (kR14 hS215.1 ta1) d276 ?_
                  refine tr_iload dX12_readEvent_113 rfl ?_
                  refine tr_iload_n dX12_readEvent_115 rfl ?_
                  refine q_iastX dX12_readEvent_116 (kR54 hS215.1 ta275) (ti_in (nR54 hS215.1 ta275) (by omega) (by omega)) hS215 ta275 (by rfl) (hS215.1.putK (m := a1) ta1 d276 (by rw [c216]; exact Int.le_of_eq (ti_nat (by omega)).symm)) ?_
                  intro I281 hS282 e283 f284
                  have c285 : I281 a1 2 = v37 := (f284 _ _ (fun q => by have z := ta1; rw [q.1, ta275] at z; exact absurd z (by decide))).trans c216
                  have c286 : I281 a0 13 = v255 := (f284 _ _ (fun q => by have z := ta0; rw [q.1, ta275] at z; exact absurd z (by decide))).trans c256
                  have c287 : I281 a0 9 = v257 := (f284 _ _ (fun q => by have z := ta0; rw [q.1, ta275] at z; exact absurd z (by decide))).trans c258
                  have c288 : I281 a0 10 = v260 := (f284 _ _ (fun q => by have z := ta0; rw [q.1, ta275] at z; exact absurd z (by decide))).trans c261
                  have c289 : I281 a0 11 = v263 := (f284 _ _ (fun q => by have z := ta0; rw [q.1, ta275] at z; exact absurd z (by decide))).trans c264
                  have c290 : I281 a0 12 = v267 := (f284 _ _ (fun q => by have z := ta0; rw [q.1, ta275] at z; exact absurd z (by decide))).trans c268
                  have c291 : I281 a0 8 = v269 := (f284 _ _ (fun q => by have z := ta0; rw [q.1, ta275] at z; exact absurd z (by decide))).trans c270
                  have hO292 : FrO 14 a1 T I0 I281 := hO217.put f284 ta275 (Or.inl (by decide))
                  have hM293 : NmM I281 R0 L209 a1 gQ := NmM.kp1 hM254 f284 ta275 rfl rfl hS215.1 ta1
                  refine tr_aload_n dX12_readEvent_117 rfl ?_
                  refine tr_getR dX12_readEvent_118 fl12_188 (kR15 hS282.1 ta0) d2 ?_
                  obtain ⟨a294, d295, ta294⟩ := rf14_12 hW0 ta1
                  refine tr_getR dX12_readEvent_121 fl12_277 (kR14 hS282.1 ta1) d295 ?_
                  refine tr_iload dX12_readEvent_124 rfl ?_
                  refine tr_iload_n dX12_readEvent_126 rfl ?_
                  refine q_iastX dX12_readEvent_127 (kR55 hS282.1 ta294) (ti_in (nR55 hS282.1 ta294) (by omega) (by omega)) hS282 ta294 (by rfl) (hS282.1.putH (m := a1) ta1 d295 (by rw [c285]; exact Int.le_of_eq (ti_nat (by omega)).symm) (by omega)) ?_
                  intro I300 hS301 e302 f303
                  have c304 : I300 a1 2 = v37 := (f303 _ _ (fun q => by have z := ta1; rw [q.1, ta294] at z; exact absurd z (by decide))).trans c285
                  have c305 : I300 a0 13 = v255 := (f303 _ _ (fun q => by have z := ta0; rw [q.1, ta294] at z; exact absurd z (by decide))).trans c286
                  have c306 : I300 a0 9 = v257 := (f303 _ _ (fun q => by have z := ta0; rw [q.1, ta294] at z; exact absurd z (by decide))).trans c287
                  have c307 : I300 a0 10 = v260 := (f303 _ _ (fun q => by have z := ta0; rw [q.1, ta294] at z; exact absurd z (by decide))).trans c288
                  have c308 : I300 a0 11 = v263 := (f303 _ _ (fun q => by have z := ta0; rw [q.1, ta294] at z; exact absurd z (by decide))).trans c289
                  have c309 : I300 a0 12 = v267 := (f303 _ _ (fun q => by have z := ta0; rw [q.1, ta294] at z; exact absurd z (by decide))).trans c290
                  have c310 : I300 a0 8 = v269 := (f303 _ _ (fun q => by have z := ta0; rw [q.1, ta294] at z; exact absurd z (by decide))).trans c291
                  have c311 : I300 a275 v37.toNatClampNeg = x1 := (f303 _ _ (fun q => by have z := ta275; rw [q.1, ta294] at z; exact absurd z (by decide))).trans e283
                  have hO312 : FrO 14 a1 T I0 I300 := hO292.put f303 ta294 (Or.inl (by decide))
                  have hM313 : NmM I300 R0 L209 a1 gQ := NmM.kp1 hM293 f303 ta294 rfl rfl hS282.1 ta1
                  refine tr_aload_n dX12_readEvent_128 rfl ?_
                  refine tr_getR dX12_readEvent_129 fl12_188 (kR15 hS301.1 ta0) d2 ?_
                  obtain ⟨a314, d315, ta314⟩ := rf14_13 hW0 ta1
                  refine tr_getR dX12_readEvent_132 fl12_280 (kR14 hS301.1 ta1) d315 ?_
                  refine tr_iload dX12_readEvent_135 rfl ?_
                  refine tr_iload_n dX12_readEvent_137 rfl ?_
                  refine q_iast dX12_readEvent_138 (kR56 hS301.1 ta314) (ti_in (nR56 hS301.1 ta314) (by omega) (by omega)) hS301 ta314 (by show (0 : Int) ≤ v151.toInt ∧ v151.toInt ≤ (240 : Int); omega) rfl (by rfl) ?_
                  intro I316 hS317 e319 f318
                  have c320 : I316 a1 2 = v37 := (f318 _ _ (fun q => by have z := ta1; rw [q.1, ta314] at z; exact absurd z (by decide))).trans c304
                  have c321 : I316 a0 13 = v255 := (f318 _ _ (fun q => by have z := ta0; rw [q.1, ta314] at z; exact absurd z (by decide))).trans c305
                  have c322 : I316 a0 9 = v257 := (f318 _ _ (fun q => by have z := ta0; rw [q.1, ta314] at z; exact absurd z (by decide))).trans c306
                  have c323 : I316 a0 10 = v260 := (f318 _ _ (fun q => by have z := ta0; rw [q.1, ta314] at z; exact absurd z (by decide))).trans c307
                  have c324 : I316 a0 11 = v263 := (f318 _ _ (fun q => by have z := ta0; rw [q.1, ta314] at z; exact absurd z (by decide))).trans c308
                  have c325 : I316 a0 12 = v267 := (f318 _ _ (fun q => by have z := ta0; rw [q.1, ta314] at z; exact absurd z (by decide))).trans c309
                  have c326 : I316 a0 8 = v269 := (f318 _ _ (fun q => by have z := ta0; rw [q.1, ta314] at z; exact absurd z (by decide))).trans c310
                  have c327 : I316 a275 v37.toNatClampNeg = x1 := (f318 _ _ (fun q => by have z := ta275; rw [q.1, ta314] at z; exact absurd z (by decide))).trans c311
                  have c328 : I316 a294 v37.toNatClampNeg = v138 := (f318 _ _ (fun q => by have z := ta294; rw [q.1, ta314] at z; exact absurd z (by decide))).trans e302
                  have hO329 : FrO 14 a1 T I0 I316 := hO312.put f318 ta314 (Or.inl (by decide))
                  have hM330 : NmM I316 R0 L209 a1 gQ := NmM.kp1 hM313 f318 ta314 rfl rfl hS301.1 ta1
                  refine tr_aload_n dX12_readEvent_139 rfl ?_
                  refine tr_getR dX12_readEvent_140 fl12_188 (kR15 hS317.1 ta0) d2 ?_
                  obtain ⟨a331, d332, ta331⟩ := rf14_14 hW0 ta1
                  refine tr_getR dX12_readEvent_143 fl12_283 (kR14 hS317.1 ta1) d332 ?_
                  refine tr_iload dX12_readEvent_146 rfl ?_
                  refine tr_iload dX12_readEvent_148 rfl ?_
                  refine q_iast dX12_readEvent_150 (kR57 hS317.1 ta331) (ti_in (nR57 hS317.1 ta331) (by omega) (by omega)) hS317 ta331 (by show (0 : Int) ≤ v212.toInt ∧ v212.toInt ≤ (240 : Int); omega) rfl (by rfl) ?_
                  intro I333 hS334 e336 f335
                  have c337 : I333 a1 2 = v37 := (f335 _ _ (fun q => by have z := ta1; rw [q.1, ta331] at z; exact absurd z (by decide))).trans c320
                  have c338 : I333 a0 13 = v255 := (f335 _ _ (fun q => by have z := ta0; rw [q.1, ta331] at z; exact absurd z (by decide))).trans c321
                  have c339 : I333 a0 9 = v257 := (f335 _ _ (fun q => by have z := ta0; rw [q.1, ta331] at z; exact absurd z (by decide))).trans c322
                  have c340 : I333 a0 10 = v260 := (f335 _ _ (fun q => by have z := ta0; rw [q.1, ta331] at z; exact absurd z (by decide))).trans c323
                  have c341 : I333 a0 11 = v263 := (f335 _ _ (fun q => by have z := ta0; rw [q.1, ta331] at z; exact absurd z (by decide))).trans c324
                  have c342 : I333 a0 12 = v267 := (f335 _ _ (fun q => by have z := ta0; rw [q.1, ta331] at z; exact absurd z (by decide))).trans c325
                  have c343 : I333 a0 8 = v269 := (f335 _ _ (fun q => by have z := ta0; rw [q.1, ta331] at z; exact absurd z (by decide))).trans c326
                  have c344 : I333 a275 v37.toNatClampNeg = x1 := (f335 _ _ (fun q => by have z := ta275; rw [q.1, ta331] at z; exact absurd z (by decide))).trans c327
                  have c345 : I333 a294 v37.toNatClampNeg = v138 := (f335 _ _ (fun q => by have z := ta294; rw [q.1, ta331] at z; exact absurd z (by decide))).trans c328
                  have hO346 : FrO 14 a1 T I0 I333 := hO329.put f335 ta331 (Or.inl (by decide))
                  have hM347 : NmM I333 R0 L209 a1 gQ := NmM.kp1 hM330 f335 ta331 rfl rfl hS317.1 ta1
                  refine tr_aload_n dX12_readEvent_151 rfl ?_
                  refine tr_getR dX12_readEvent_152 fl12_188 (kR15 hS334.1 ta0) d2 ?_
                  refine tr_dup dX12_readEvent_155 rfl ?_
                  refine q_getI dX12_readEvent_156 fl12_265 (kR14 hS334.1 ta1) c337 ?_
                  refine q_iconst dX12_readEvent_159 (by decide) ?_
                  intro v348 h349
                  refine q_iaddE dX12_readEvent_160 (by intros; omega) ?_
                  intro v350 h351
                  refine q_putX dX12_readEvent_161 fl12_265 (kR14 hS334.1 ta1) (Or.inl rfl) hS334 ta1 (by decide +kernel) (hS334.1.putE (i := v37.toNatClampNeg) ta1 d276 d295 (by rw [c337]; exact (ti_nat (by omega)).symm) (by rw [c337]; omega) (by omega) (by rw [c344, c345]; omega)) ?_
                  intro I352 hS353 e354 f355
                  have c356 : I352 a0 13 = v255 := (f355 _ _ (fun q => absurd q.2 (by decide))).trans c338
                  have c357 : I352 a0 9 = v257 := (f355 _ _ (fun q => absurd q.2 (by decide))).trans c339
                  have c358 : I352 a0 10 = v260 := (f355 _ _ (fun q => absurd q.2 (by decide))).trans c340
                  have c359 : I352 a0 11 = v263 := (f355 _ _ (fun q => absurd q.2 (by decide))).trans c341
                  have c360 : I352 a0 12 = v267 := (f355 _ _ (fun q => absurd q.2 (by decide))).trans c342
                  have c361 : I352 a0 8 = v269 := (f355 _ _ (fun q => absurd q.2 (by decide))).trans c343
                  have c362 : I352 a275 v37.toNatClampNeg = x1 := (f355 _ _ (fun q => by have z := ta275; rw [q.1, ta1] at z; exact absurd z (by decide))).trans c344
                  have c363 : I352 a294 v37.toNatClampNeg = v138 := (f355 _ _ (fun q => by have z := ta294; rw [q.1, ta1] at z; exact absurd z (by decide))).trans c345
                  have hO364 : FrO 14 a1 T I0 I352 := hO346.put f355 ta1 (Or.inr rfl)
                  have hM365 : NmM I352 R0 L209 a1 gQ := NmM.kp1 hM347 f355 ta1 rfl rfl hS334.1 ta1
                  have eF := hF.eq
                  have eP := hP.eq
                  have es366 := evS_c0 (B := gB) (Q := gQ) (k := srt gB gs) (s := (tkN gB gs)) (by omega) (by omega)
                  obtain ⟨v367, c368⟩ : ∃ v, I352 a0 14 = v := ⟨_, rfl⟩
                  exact tr_vret hZ dX12_readEvent_164 rfl (by decide) (by decide) ⟨rfl, rfl, rfl, rfl, rfl, hS353, (fun dr hd => (Option.some.inj (d2.symm.trans hd)) ▸ hO364), (Or.inl ⟨(by (try rw [w122]); (try rw [es366]); first | done | with_reducible assumption | omega), (fun q0 z0 => by obtain rfl := Option.some.inj ((d2).symm.trans z0); (try rw [w122]); (try rw [es366]); (try rw [((hS353.cell ta1 (by decide +kernel)).trans c30)]); first | done | with_reducible assumption | omega), (fun q0 z0 => by obtain rfl := Option.some.inj ((d2).symm.trans z0); (try rw [w122]); (try rw [es366]); (try rw [((hS353.cell ta1 (by decide +kernel)).trans c34)]); first | done | with_reducible assumption | omega), (fun q0 z0 => by obtain rfl := Option.some.inj ((d2).symm.trans z0); (try rw [w122]); (try rw [es366]); (try rw [e354]); first | done | with_reducible assumption | omega), (fun q0 z0 => by obtain rfl := Option.some.inj ((d2).symm.trans z0); (try rw [w122]); (try rw [es366]); (try rw [((hS353.cell ta1 (by decide +kernel)).trans c42)]); first | done | with_reducible assumption | omega), (fun q0 z0 => by obtain rfl := Option.some.inj ((d2).symm.trans z0); (try rw [w122]); (try rw [es366]); (try rw [((hS353.cell ta1 (by decide +kernel)).trans c46)]); first | done | with_reducible assumption | omega), (fun q0 z0 => by obtain rfl := Option.some.inj ((d2).symm.trans z0); (try rw [w122]); (try rw [es366]); (try rw [((hS353.cell ta1 (by decide +kernel)).trans c50)]); first | done | with_reducible assumption | omega), (fun q0 z0 => by obtain rfl := Option.some.inj ((d2).symm.trans z0); (try rw [w122]); (try rw [es366]); (try rw [((hS353.cell ta1 (by decide +kernel)).trans c54)]); first | done | with_reducible assumption | omega), (fun q0 z0 => by obtain rfl := Option.some.inj ((d2).symm.trans z0); (try rw [w122]); (try rw [es366]); (try rw [((hS353.cell ta1 (by decide +kernel)).trans c58)]); first | done | with_reducible assumption | omega), (by (try rw [w122]); (try rw [es366]); (try rw [c356]); (try rw [c65]); first | done | with_reducible assumption | omega), (by (try rw [w122]); (try rw [es366]); (try rw [c357]); first | done | with_reducible assumption | omega), (by (try rw [w122]); (try rw [es366]); (try rw [c357]); first | done | with_reducible assumption | omega), (by (try rw [w122]); (try rw [es366]); (try rw [c358]); first | done | with_reducible assumption | omega), (by (try rw [w122]); (try rw [es366]); (try rw [c359]); first | done | with_reducible assumption | omega), (by (try rw [w122]); (try rw [es366]); (try rw [c266]); first | done | assumption), (by (try rw [w122]); (try rw [es366]); (try rw [c360]); first | done | assumption), (by (try rw [w122]); (try rw [es366]); (try rw [c361]); first | done | assumption), hL253, (fun b hb => (Option.some.inj (d2.symm.trans hb)) ▸ NmM.ln (NmM.bd (k := srt gB gs) hM365 (by omega) (by omega)) rfl), trivial⟩), trivial⟩
                · skip
                  exfalso; omega
              · skip
                obtain ⟨v369, c370⟩ : ∃ v, I207 a0 9 = v := ⟨_, rfl⟩
                have b371 := iv15_9 hS215.1 ta0 c370
                rw [c370] at p235
                obtain ⟨v372, c373⟩ : ∃ v, I207 a0 13 = v := ⟨_, rfl⟩
                rw [c373] at p236
                obtain ⟨v374, c375⟩ : ∃ v, I207 a0 14 = v := ⟨_, rfl⟩
                rw [c375] at p237
                replace hF := hF.pos (by omega)
                replace hP := hP.pos (by omega)
                refine tr_istore dX12_readEvent_86 (by decide) (by decide) ?_
                refine tr_aload_n dX12_readEvent_88 rfl ?_
                refine q_getI dX12_readEvent_89 fl12_99 (kR15 hS215.1 ta0) c370 ?_
                refine q_iconst dX12_readEvent_92 (by decide) ?_
                intro v376 h377
                refine q_icmp_ne 97 dX12_readEvent_93 (by decide) (fun h378 => ?_) (fun h378 => ?_)
                · skip
                  exfalso; omega
                · skip
                  have eF := hF.eq
                  have eP := hP.eq
                  obtain ⟨v379, c380⟩ : ∃ v, I207 a0 10 = v := ⟨_, rfl⟩
                  have b381 := iv15_10 hS215.1 ta0 c380
                  obtain ⟨v382, c383⟩ : ∃ v, I207 a0 11 = v := ⟨_, rfl⟩
                  obtain ⟨y384, c385⟩ : ∃ v, L209 a0 15 = v := ⟨_, rfl⟩
                  obtain ⟨v386, c387⟩ : ∃ v, I207 a0 12 = v := ⟨_, rfl⟩
                  obtain ⟨v388, c389⟩ : ∃ v, I207 a0 8 = v := ⟨_, rfl⟩
                  have b390 := iv15_8 hS215.1 ta0 c389
                  exact tr_vret hZ dX12_readEvent_96 rfl (by decide) (by decide) ⟨rfl, rfl, rfl, rfl, rfl, hS215, (fun dr hd => (Option.some.inj (d2.symm.trans hd)) ▸ hO217), (Or.inr (⟨(by (try rw [w122]); first | done | with_reducible assumption | omega), (by (try rw [w122]); (try rw [c370]); first | done | with_reducible assumption | omega), (by (try rw [w122]); (try rw [c373]); first | done | with_reducible assumption | omega), (by (try rw [w122]); (try rw [c375]); first | done | with_reducible assumption | omega), trivial⟩)), trivial⟩
              · skip
                obtain ⟨v391, c392⟩ : ∃ v, I207 a0 9 = v := ⟨_, rfl⟩
                have b393 := iv15_9 hS215.1 ta0 c392
                rw [c392] at p242
                obtain ⟨v394, c395⟩ : ∃ v, I207 a0 13 = v := ⟨_, rfl⟩
                rw [c395] at p243
                obtain ⟨v396, c397⟩ : ∃ v, I207 a0 14 = v := ⟨_, rfl⟩
                rw [c397] at p244
                replace hF := hF.neg (by omega)
                replace hP := hP.neg (by omega)
                replace hF := hF.pos (by omega)
                replace hP := hP.pos (by omega)
                refine tr_istore dX12_readEvent_86 (by decide) (by decide) ?_
                refine tr_aload_n dX12_readEvent_88 rfl ?_
                refine q_getI dX12_readEvent_89 fl12_99 (kR15 hS215.1 ta0) c392 ?_
                refine q_iconst dX12_readEvent_92 (by decide) ?_
                intro v398 h399
                refine q_icmp_ne 97 dX12_readEvent_93 (by decide) (fun h400 => ?_) (fun h400 => ?_)
                · skip
                  exfalso; omega
                · skip
                  have eF := hF.eq
                  have eP := hP.eq
                  obtain ⟨v401, c402⟩ : ∃ v, I207 a0 10 = v := ⟨_, rfl⟩
                  have b403 := iv15_10 hS215.1 ta0 c402
                  obtain ⟨v404, c405⟩ : ∃ v, I207 a0 11 = v := ⟨_, rfl⟩
                  obtain ⟨y406, c407⟩ : ∃ v, L209 a0 15 = v := ⟨_, rfl⟩
                  obtain ⟨v408, c409⟩ : ∃ v, I207 a0 12 = v := ⟨_, rfl⟩
                  obtain ⟨v410, c411⟩ : ∃ v, I207 a0 8 = v := ⟨_, rfl⟩
                  have b412 := iv15_8 hS215.1 ta0 c411
                  exact tr_vret hZ dX12_readEvent_96 rfl (by decide) (by decide) ⟨rfl, rfl, rfl, rfl, rfl, hS215, (fun dr hd => (Option.some.inj (d2.symm.trans hd)) ▸ hO217), (Or.inr (⟨(by (try rw [w122]); first | done | with_reducible assumption | omega), (by (try rw [w122]); (try rw [c392]); first | done | with_reducible assumption | omega), (by (try rw [w122]); (try rw [c395]); first | done | with_reducible assumption | omega), (by (try rw [w122]); (try rw [c397]); first | done | with_reducible assumption | omega), trivial⟩)), trivial⟩
              · skip
                obtain ⟨v413, c414⟩ : ∃ v, I207 a0 9 = v := ⟨_, rfl⟩
                have b415 := iv15_9 hS215.1 ta0 c414
                rw [c414] at p250
                obtain ⟨v416, c417⟩ : ∃ v, I207 a0 13 = v := ⟨_, rfl⟩
                rw [c417] at p251
                obtain ⟨v418, c419⟩ : ∃ v, I207 a0 14 = v := ⟨_, rfl⟩
                rw [c419] at p252
                replace hF := hF.neg (by omega)
                replace hP := hP.neg (by omega)
                replace hF := hF.neg (by omega)
                replace hP := hP.neg (by omega)
                replace hF := hF.pos (by omega)
                replace hP := hP.pos (by omega)
                refine tr_istore dX12_readEvent_86 (by decide) (by decide) ?_
                refine tr_aload_n dX12_readEvent_88 rfl ?_
                refine q_getI dX12_readEvent_89 fl12_99 (kR15 hS215.1 ta0) c414 ?_
                refine q_iconst dX12_readEvent_92 (by decide) ?_
                intro v420 h421
                refine q_icmp_ne 97 dX12_readEvent_93 (by decide) (fun h422 => ?_) (fun h422 => ?_)
                · skip
                  exfalso; omega
                · skip
                  have eF := hF.eq
                  have eP := hP.eq
                  obtain ⟨v423, c424⟩ : ∃ v, I207 a0 10 = v := ⟨_, rfl⟩
                  have b425 := iv15_10 hS215.1 ta0 c424
                  obtain ⟨v426, c427⟩ : ∃ v, I207 a0 11 = v := ⟨_, rfl⟩
                  obtain ⟨y428, c429⟩ : ∃ v, L209 a0 15 = v := ⟨_, rfl⟩
                  obtain ⟨v430, c431⟩ : ∃ v, I207 a0 12 = v := ⟨_, rfl⟩
                  obtain ⟨v432, c433⟩ : ∃ v, I207 a0 8 = v := ⟨_, rfl⟩
                  have b434 := iv15_8 hS215.1 ta0 c433
                  exact tr_vret hZ dX12_readEvent_96 rfl (by decide) (by decide) ⟨rfl, rfl, rfl, rfl, rfl, hS215, (fun dr hd => (Option.some.inj (d2.symm.trans hd)) ▸ hO217), (Or.inr (⟨(by (try rw [w122]); first | done | with_reducible assumption | omega), (by (try rw [w122]); (try rw [c414]); first | done | with_reducible assumption | omega), (by (try rw [w122]); (try rw [c417]); first | done | with_reducible assumption | omega), (by (try rw [w122]); (try rw [c419]); first | done | with_reducible assumption | omega), trivial⟩)), trivial⟩
            · skip
              exfalso; omega
          · skip
            obtain ⟨v435, c436⟩ : ∃ v, I146 a0 9 = v := ⟨_, rfl⟩
            have b437 := iv15_9 hS154.1 ta0 c436
            rw [c436] at p172
            obtain ⟨v438, c439⟩ : ∃ v, I146 a0 13 = v := ⟨_, rfl⟩
            rw [c439] at p173
            obtain ⟨v440, c441⟩ : ∃ v, I146 a0 14 = v := ⟨_, rfl⟩
            rw [c441] at p174
            replace hF := hF.pos (by omega)
            replace hP := hP.pos (by omega)
            refine tr_istore_n dX12_readEvent_57 (by decide) (by decide) ?_
            refine tr_iload_n dX12_readEvent_58 rfl ?_
            refine q_iconst dX12_readEvent_59 (by decide) ?_
            intro v442 h443
            refine q_icmp_ne 69 dX12_readEvent_60 (by decide) (fun h444 => ?_) (fun h444 => ?_)
            · skip
              refine tr_aload_n dX12_readEvent_69 rfl ?_
              refine tr_ldcwS dX12_readEvent_70 ld12_272 ?_
              refine tr_iload_n dX12_readEvent_73 rfl ?_
              refine q_iconst dX12_readEvent_74 (by decide) ?_
              intro v445 h446
              refine q_iaddE dX12_readEvent_75 (by intros; omega) ?_
              intro v447 h448
              refine tr_aload_n dX12_readEvent_76 rfl ?_
              refine tr_getR dX12_readEvent_77 fl12_188 (kR15 hS154.1 ta0) d2 ?_
              refine q_getI dX12_readEvent_80 fl12_192 (kR14 hS154.1 ta1) ((hS154.cell ta1 (by decide +kernel)).trans c30) ?_
              refine q_callVi hE (M' := mX12_readPart) (as := [_, _, _]) dX12_readEvent_83 lk12_249 inX12_readPart seX12_readPart myX12_readPart (by decide) ⟨by decide, by decide⟩ rfl (kR15 hS154.1 ta0) (Nat.le_of_ble_eq_true rfl) rfl rfl (by decide) (by decide) (k_X12_readPart hS154.1 ta0 (by decide)) ?_
              rintro v453 cn' K' N' I449 R450 L451 ⟨rfl, rfl, rfl, rfl, g452, p454, w455, -⟩
              have hS456 := hS154.tr g452 (by decide +kernel) (by decide +kernel)
              have c457 : I449 a1 2 = v37 := (g452.cell ta1 (by decide +kernel)).trans c155
              have b458 : 1 ≤ v453.toInt ∧ v453.toInt ≤ 240 := by omega
              clear p454
              have hO459 : FrO 14 a1 T I0 I449 := hO156.st g452 (by decide +kernel)
              have ov460 := w455.over (by rw [c436]; omega)
              obtain ⟨v461, c462⟩ : ∃ v, I449 a0 9 = v := ⟨_, rfl⟩
              have b463 := iv15_9 hS456.1 ta0 c462
              obtain ⟨v464, c465⟩ : ∃ v, I449 a0 13 = v := ⟨_, rfl⟩
              obtain ⟨v466, c467⟩ : ∃ v, I449 a0 14 = v := ⟨_, rfl⟩
              (try rw [c462] at ov460)
              (try rw [c465] at ov460)
              (try rw [c467] at ov460)
              (try rw [c436] at ov460)
              (try rw [c439] at ov460)
              (try rw [c441] at ov460)
              refine tr_istore dX12_readEvent_86 (by decide) (by decide) ?_
              refine tr_aload_n dX12_readEvent_88 rfl ?_
              refine q_getI dX12_readEvent_89 fl12_99 (kR15 hS456.1 ta0) c462 ?_
              refine q_iconst dX12_readEvent_92 (by decide) ?_
              intro v468 h469
              refine q_icmp_ne 97 dX12_readEvent_93 (by decide) (fun h470 => ?_) (fun h470 => ?_)
              · skip
                exfalso; omega
              · skip
                have eF := hF.eq
                have eP := hP.eq
                obtain ⟨v471, c472⟩ : ∃ v, I449 a0 10 = v := ⟨_, rfl⟩
                have b473 := iv15_10 hS456.1 ta0 c472
                obtain ⟨v474, c475⟩ : ∃ v, I449 a0 11 = v := ⟨_, rfl⟩
                obtain ⟨y476, c477⟩ : ∃ v, L451 a0 15 = v := ⟨_, rfl⟩
                obtain ⟨v478, c479⟩ : ∃ v, I449 a0 12 = v := ⟨_, rfl⟩
                obtain ⟨v480, c481⟩ : ∃ v, I449 a0 8 = v := ⟨_, rfl⟩
                have b482 := iv15_8 hS456.1 ta0 c481
                exact tr_vret hZ dX12_readEvent_96 rfl (by decide) (by decide) ⟨rfl, rfl, rfl, rfl, rfl, hS456, (fun dr hd => (Option.some.inj (d2.symm.trans hd)) ▸ hO459), (Or.inr (⟨(by (try rw [w122]); first | done | with_reducible assumption | omega), (by (try rw [w122]); (try rw [c462]); first | done | with_reducible assumption | omega), (by (try rw [w122]); (try rw [c465]); first | done | with_reducible assumption | omega), (by (try rw [w122]); (try rw [c467]); first | done | with_reducible assumption | omega), trivial⟩)), trivial⟩
            · skip
              exfalso; omega
          · skip
            obtain ⟨v483, c484⟩ : ∃ v, I146 a0 9 = v := ⟨_, rfl⟩
            have b485 := iv15_9 hS154.1 ta0 c484
            rw [c484] at p178
            obtain ⟨v486, c487⟩ : ∃ v, I146 a0 13 = v := ⟨_, rfl⟩
            rw [c487] at p179
            obtain ⟨v488, c489⟩ : ∃ v, I146 a0 14 = v := ⟨_, rfl⟩
            rw [c489] at p180
            replace hF := hF.neg (by omega)
            replace hP := hP.neg (by omega)
            replace hF := hF.pos (by omega)
            replace hP := hP.pos (by omega)
            refine tr_istore_n dX12_readEvent_57 (by decide) (by decide) ?_
            refine tr_iload_n dX12_readEvent_58 rfl ?_
            refine q_iconst dX12_readEvent_59 (by decide) ?_
            intro v490 h491
            refine q_icmp_ne 69 dX12_readEvent_60 (by decide) (fun h492 => ?_) (fun h492 => ?_)
            · skip
              refine tr_aload_n dX12_readEvent_69 rfl ?_
              refine tr_ldcwS dX12_readEvent_70 ld12_272 ?_
              refine tr_iload_n dX12_readEvent_73 rfl ?_
              refine q_iconst dX12_readEvent_74 (by decide) ?_
              intro v493 h494
              refine q_iaddE dX12_readEvent_75 (by intros; omega) ?_
              intro v495 h496
              refine tr_aload_n dX12_readEvent_76 rfl ?_
              refine tr_getR dX12_readEvent_77 fl12_188 (kR15 hS154.1 ta0) d2 ?_
              refine q_getI dX12_readEvent_80 fl12_192 (kR14 hS154.1 ta1) ((hS154.cell ta1 (by decide +kernel)).trans c30) ?_
              refine q_callVi hE (M' := mX12_readPart) (as := [_, _, _]) dX12_readEvent_83 lk12_249 inX12_readPart seX12_readPart myX12_readPart (by decide) ⟨by decide, by decide⟩ rfl (kR15 hS154.1 ta0) (Nat.le_of_ble_eq_true rfl) rfl rfl (by decide) (by decide) (k_X12_readPart hS154.1 ta0 (by decide)) ?_
              rintro v501 cn' K' N' I497 R498 L499 ⟨rfl, rfl, rfl, rfl, g500, p502, w503, -⟩
              have hS504 := hS154.tr g500 (by decide +kernel) (by decide +kernel)
              have c505 : I497 a1 2 = v37 := (g500.cell ta1 (by decide +kernel)).trans c155
              have b506 : 1 ≤ v501.toInt ∧ v501.toInt ≤ 240 := by omega
              clear p502
              have hO507 : FrO 14 a1 T I0 I497 := hO156.st g500 (by decide +kernel)
              have ov508 := w503.over (by rw [c484]; omega)
              obtain ⟨v509, c510⟩ : ∃ v, I497 a0 9 = v := ⟨_, rfl⟩
              have b511 := iv15_9 hS504.1 ta0 c510
              obtain ⟨v512, c513⟩ : ∃ v, I497 a0 13 = v := ⟨_, rfl⟩
              obtain ⟨v514, c515⟩ : ∃ v, I497 a0 14 = v := ⟨_, rfl⟩
              (try rw [c510] at ov508)
              (try rw [c513] at ov508)
              (try rw [c515] at ov508)
              (try rw [c484] at ov508)
              (try rw [c487] at ov508)
              (try rw [c489] at ov508)
              refine tr_istore dX12_readEvent_86 (by decide) (by decide) ?_
              refine tr_aload_n dX12_readEvent_88 rfl ?_
              refine q_getI dX12_readEvent_89 fl12_99 (kR15 hS504.1 ta0) c510 ?_
              refine q_iconst dX12_readEvent_92 (by decide) ?_
              intro v516 h517
              refine q_icmp_ne 97 dX12_readEvent_93 (by decide) (fun h518 => ?_) (fun h518 => ?_)
              · skip
                exfalso; omega
              · skip
                have eF := hF.eq
                have eP := hP.eq
                obtain ⟨v519, c520⟩ : ∃ v, I497 a0 10 = v := ⟨_, rfl⟩
                have b521 := iv15_10 hS504.1 ta0 c520
                obtain ⟨v522, c523⟩ : ∃ v, I497 a0 11 = v := ⟨_, rfl⟩
                obtain ⟨y524, c525⟩ : ∃ v, L499 a0 15 = v := ⟨_, rfl⟩
                obtain ⟨v526, c527⟩ : ∃ v, I497 a0 12 = v := ⟨_, rfl⟩
                obtain ⟨v528, c529⟩ : ∃ v, I497 a0 8 = v := ⟨_, rfl⟩
                have b530 := iv15_8 hS504.1 ta0 c529
                exact tr_vret hZ dX12_readEvent_96 rfl (by decide) (by decide) ⟨rfl, rfl, rfl, rfl, rfl, hS504, (fun dr hd => (Option.some.inj (d2.symm.trans hd)) ▸ hO507), (Or.inr (⟨(by (try rw [w122]); first | done | with_reducible assumption | omega), (by (try rw [w122]); (try rw [c510]); first | done | with_reducible assumption | omega), (by (try rw [w122]); (try rw [c513]); first | done | with_reducible assumption | omega), (by (try rw [w122]); (try rw [c515]); first | done | with_reducible assumption | omega), trivial⟩)), trivial⟩
            · skip
              exfalso; omega
        · skip
          exfalso; omega
    · skip
      obtain ⟨v531, c532⟩ : ∃ v, I69 a0 9 = v := ⟨_, rfl⟩
      have b533 := iv15_9 hS77.1 ta0 c532
      rw [c532] at p92
      obtain ⟨v534, c535⟩ : ∃ v, I69 a0 13 = v := ⟨_, rfl⟩
      rw [c535] at p93
      obtain ⟨v536, c537⟩ : ∃ v, I69 a0 14 = v := ⟨_, rfl⟩
      rw [c537] at p94
      have p538 := p61
      unfold Q7M at p538
      replace hF := hF.pos (by omega)
      replace hP := hP.pos (by omega)
      clear p538
      refine tr_iload_n dX12_readEvent_13 rfl ?_
      refine q_iconst dX12_readEvent_14 (by decide) ?_
      intro v539 h540
      refine q_icmp_eq 23 dX12_readEvent_15 (by decide) (fun h541 => ?_) (fun h541 => ?_)
      · skip
        exfalso; omega
      · skip
        refine tr_iload_n dX12_readEvent_18 rfl ?_
        refine q_iconst dX12_readEvent_19 (by decide) ?_
        intro v542 h543
        refine q_icmp_ne 40 dX12_readEvent_20 (by decide) (fun h544 => ?_) (fun h544 => ?_)
        · skip
          refine q_bipush dX12_readEvent_40 (by decide +kernel) ?_
          intro v545 h546
          refine tr_istore_n dX12_readEvent_42 (by decide) (by decide) ?_
          refine tr_aload_n dX12_readEvent_43 rfl ?_
          refine q_iconst dX12_readEvent_44 (by decide) ?_
          intro v547 h548
          refine tr_aload_n dX12_readEvent_45 rfl ?_
          refine tr_getR dX12_readEvent_46 fl12_188 (kR15 hS77.1 ta0) d2 ?_
          refine q_getI dX12_readEvent_49 fl12_192 (kR14 hS77.1 ta1) ((hS77.cell ta1 (by decide +kernel)).trans c30) ?_
          refine q_iconst dX12_readEvent_52 (by decide) ?_
          intro v549 h550
          refine q_isubE dX12_readEvent_53 (by intros; omega) ?_
          intro v551 h552
          refine q_callVi hE (M' := mX12_readWhole) (as := [_, _]) dX12_readEvent_54 lk12_161 inX12_readWhole seX12_readWhole myX12_readWhole (by decide) ⟨by decide, by decide⟩ rfl (kR15 hS77.1 ta0) (Nat.le_of_ble_eq_true rfl) rfl rfl (by decide) (by decide) (k_X12_readWhole hS77.1 ta0) ?_
          rintro v557 cn' K' N' I553 R554 L555 ⟨rfl, rfl, rfl, rfl, g556, p558, w559, -⟩
          have hS560 := hS77.tr g556 (by decide +kernel) (by decide +kernel)
          have c561 : I553 a1 2 = v37 := (g556.cell ta1 (by decide +kernel)).trans c78
          have b562 : 0 ≤ v557.toInt ∧ v557.toInt ≤ 239 := by omega
          clear p558
          have hO563 : FrO 14 a1 T I0 I553 := hO79.st g556 (by decide +kernel)
          have ov564 := w559.over (by rw [c532]; omega)
          obtain ⟨v565, c566⟩ : ∃ v, I553 a0 9 = v := ⟨_, rfl⟩
          have b567 := iv15_9 hS560.1 ta0 c566
          obtain ⟨v568, c569⟩ : ∃ v, I553 a0 13 = v := ⟨_, rfl⟩
          obtain ⟨v570, c571⟩ : ∃ v, I553 a0 14 = v := ⟨_, rfl⟩
          (try rw [c566] at ov564)
          (try rw [c569] at ov564)
          (try rw [c571] at ov564)
          (try rw [c532] at ov564)
          (try rw [c535] at ov564)
          (try rw [c537] at ov564)
          refine tr_istore_n dX12_readEvent_57 (by decide) (by decide) ?_
          refine tr_iload_n dX12_readEvent_58 rfl ?_
          refine q_iconst dX12_readEvent_59 (by decide) ?_
          intro v572 h573
          refine q_icmp_ne 69 dX12_readEvent_60 (by decide) (fun h574 => ?_) (fun h574 => ?_)
          · skip
            refine tr_aload_n dX12_readEvent_69 rfl ?_
            refine tr_ldcwS dX12_readEvent_70 ld12_272 ?_
            refine tr_iload_n dX12_readEvent_73 rfl ?_
            refine q_iconst dX12_readEvent_74 (by decide) ?_
            intro v575 h576
            refine q_iaddE dX12_readEvent_75 (by intros; omega) ?_
            intro v577 h578
            refine tr_aload_n dX12_readEvent_76 rfl ?_
            refine tr_getR dX12_readEvent_77 fl12_188 (kR15 hS560.1 ta0) d2 ?_
            refine q_getI dX12_readEvent_80 fl12_192 (kR14 hS560.1 ta1) ((hS560.cell ta1 (by decide +kernel)).trans c30) ?_
            refine q_callVi hE (M' := mX12_readPart) (as := [_, _, _]) dX12_readEvent_83 lk12_249 inX12_readPart seX12_readPart myX12_readPart (by decide) ⟨by decide, by decide⟩ rfl (kR15 hS560.1 ta0) (Nat.le_of_ble_eq_true rfl) rfl rfl (by decide) (by decide) (k_X12_readPart hS560.1 ta0 (by decide)) ?_
            rintro v583 cn' K' N' I579 R580 L581 ⟨rfl, rfl, rfl, rfl, g582, p584, w585, -⟩
            have hS586 := hS560.tr g582 (by decide +kernel) (by decide +kernel)
            have c587 : I579 a1 2 = v37 := (g582.cell ta1 (by decide +kernel)).trans c561
            have b588 : 1 ≤ v583.toInt ∧ v583.toInt ≤ 240 := by omega
            clear p584
            have hO589 : FrO 14 a1 T I0 I579 := hO563.st g582 (by decide +kernel)
            have ov590 := w585.over (by rw [c566]; omega)
            obtain ⟨v591, c592⟩ : ∃ v, I579 a0 9 = v := ⟨_, rfl⟩
            have b593 := iv15_9 hS586.1 ta0 c592
            obtain ⟨v594, c595⟩ : ∃ v, I579 a0 13 = v := ⟨_, rfl⟩
            obtain ⟨v596, c597⟩ : ∃ v, I579 a0 14 = v := ⟨_, rfl⟩
            (try rw [c592] at ov590)
            (try rw [c595] at ov590)
            (try rw [c597] at ov590)
            (try rw [c566] at ov590)
            (try rw [c569] at ov590)
            (try rw [c571] at ov590)
            refine tr_istore dX12_readEvent_86 (by decide) (by decide) ?_
            refine tr_aload_n dX12_readEvent_88 rfl ?_
            refine q_getI dX12_readEvent_89 fl12_99 (kR15 hS586.1 ta0) c592 ?_
            refine q_iconst dX12_readEvent_92 (by decide) ?_
            intro v598 h599
            refine q_icmp_ne 97 dX12_readEvent_93 (by decide) (fun h600 => ?_) (fun h600 => ?_)
            · skip
              exfalso; omega
            · skip
              have eF := hF.eq
              have eP := hP.eq
              obtain ⟨v601, c602⟩ : ∃ v, I579 a0 10 = v := ⟨_, rfl⟩
              have b603 := iv15_10 hS586.1 ta0 c602
              obtain ⟨v604, c605⟩ : ∃ v, I579 a0 11 = v := ⟨_, rfl⟩
              obtain ⟨y606, c607⟩ : ∃ v, L581 a0 15 = v := ⟨_, rfl⟩
              obtain ⟨v608, c609⟩ : ∃ v, I579 a0 12 = v := ⟨_, rfl⟩
              obtain ⟨v610, c611⟩ : ∃ v, I579 a0 8 = v := ⟨_, rfl⟩
              have b612 := iv15_8 hS586.1 ta0 c611
              exact tr_vret hZ dX12_readEvent_96 rfl (by decide) (by decide) ⟨rfl, rfl, rfl, rfl, rfl, hS586, (fun dr hd => (Option.some.inj (d2.symm.trans hd)) ▸ hO589), (Or.inr (⟨(by first | done | with_reducible assumption | omega), (by (try rw [c592]); first | done | with_reducible assumption | omega), (by (try rw [c595]); first | done | with_reducible assumption | omega), (by (try rw [c597]); first | done | with_reducible assumption | omega), trivial⟩)), trivial⟩
          · skip
            exfalso; omega
        · skip
          exfalso; omega
    · skip
      obtain ⟨v613, c614⟩ : ∃ v, I69 a0 9 = v := ⟨_, rfl⟩
      have b615 := iv15_9 hS77.1 ta0 c614
      rw [c614] at p97
      obtain ⟨v616, c617⟩ : ∃ v, I69 a0 13 = v := ⟨_, rfl⟩
      rw [c617] at p98
      obtain ⟨v618, c619⟩ : ∃ v, I69 a0 14 = v := ⟨_, rfl⟩
      rw [c619] at p99
      have p620 := p61
      unfold Q7M at p620
      replace hF := hF.neg (by omega)
      replace hP := hP.neg (by omega)
      replace hF := hF.pos (by omega)
      replace hP := hP.pos (by omega)
      clear p620
      refine tr_iload_n dX12_readEvent_13 rfl ?_
      refine q_iconst dX12_readEvent_14 (by decide) ?_
      intro v621 h622
      refine q_icmp_eq 23 dX12_readEvent_15 (by decide) (fun h623 => ?_) (fun h623 => ?_)
      · skip
        exfalso; omega
      · skip
        refine tr_iload_n dX12_readEvent_18 rfl ?_
        refine q_iconst dX12_readEvent_19 (by decide) ?_
        intro v624 h625
        refine q_icmp_ne 40 dX12_readEvent_20 (by decide) (fun h626 => ?_) (fun h626 => ?_)
        · skip
          refine q_bipush dX12_readEvent_40 (by decide +kernel) ?_
          intro v627 h628
          refine tr_istore_n dX12_readEvent_42 (by decide) (by decide) ?_
          refine tr_aload_n dX12_readEvent_43 rfl ?_
          refine q_iconst dX12_readEvent_44 (by decide) ?_
          intro v629 h630
          refine tr_aload_n dX12_readEvent_45 rfl ?_
          refine tr_getR dX12_readEvent_46 fl12_188 (kR15 hS77.1 ta0) d2 ?_
          refine q_getI dX12_readEvent_49 fl12_192 (kR14 hS77.1 ta1) ((hS77.cell ta1 (by decide +kernel)).trans c30) ?_
          refine q_iconst dX12_readEvent_52 (by decide) ?_
          intro v631 h632
          refine q_isubE dX12_readEvent_53 (by intros; omega) ?_
          intro v633 h634
          refine q_callVi hE (M' := mX12_readWhole) (as := [_, _]) dX12_readEvent_54 lk12_161 inX12_readWhole seX12_readWhole myX12_readWhole (by decide) ⟨by decide, by decide⟩ rfl (kR15 hS77.1 ta0) (Nat.le_of_ble_eq_true rfl) rfl rfl (by decide) (by decide) (k_X12_readWhole hS77.1 ta0) ?_
          rintro v639 cn' K' N' I635 R636 L637 ⟨rfl, rfl, rfl, rfl, g638, p640, w641, -⟩
          have hS642 := hS77.tr g638 (by decide +kernel) (by decide +kernel)
          have c643 : I635 a1 2 = v37 := (g638.cell ta1 (by decide +kernel)).trans c78
          have b644 : 0 ≤ v639.toInt ∧ v639.toInt ≤ 0 := by omega
          clear p640
          have hO645 : FrO 14 a1 T I0 I635 := hO79.st g638 (by decide +kernel)
          have ov646 := w641.over (by rw [c614]; omega)
          obtain ⟨v647, c648⟩ : ∃ v, I635 a0 9 = v := ⟨_, rfl⟩
          have b649 := iv15_9 hS642.1 ta0 c648
          obtain ⟨v650, c651⟩ : ∃ v, I635 a0 13 = v := ⟨_, rfl⟩
          obtain ⟨v652, c653⟩ : ∃ v, I635 a0 14 = v := ⟨_, rfl⟩
          (try rw [c648] at ov646)
          (try rw [c651] at ov646)
          (try rw [c653] at ov646)
          (try rw [c614] at ov646)
          (try rw [c617] at ov646)
          (try rw [c619] at ov646)
          refine tr_istore_n dX12_readEvent_57 (by decide) (by decide) ?_
          refine tr_iload_n dX12_readEvent_58 rfl ?_
          refine q_iconst dX12_readEvent_59 (by decide) ?_
          intro v654 h655
          refine q_icmp_ne 69 dX12_readEvent_60 (by decide) (fun h656 => ?_) (fun h656 => ?_)
          · skip
            refine tr_aload_n dX12_readEvent_69 rfl ?_
            refine tr_ldcwS dX12_readEvent_70 ld12_272 ?_
            refine tr_iload_n dX12_readEvent_73 rfl ?_
            refine q_iconst dX12_readEvent_74 (by decide) ?_
            intro v657 h658
            refine q_iaddE dX12_readEvent_75 (by intros; omega) ?_
            intro v659 h660
            refine tr_aload_n dX12_readEvent_76 rfl ?_
            refine tr_getR dX12_readEvent_77 fl12_188 (kR15 hS642.1 ta0) d2 ?_
            refine q_getI dX12_readEvent_80 fl12_192 (kR14 hS642.1 ta1) ((hS642.cell ta1 (by decide +kernel)).trans c30) ?_
            refine q_callVi hE (M' := mX12_readPart) (as := [_, _, _]) dX12_readEvent_83 lk12_249 inX12_readPart seX12_readPart myX12_readPart (by decide) ⟨by decide, by decide⟩ rfl (kR15 hS642.1 ta0) (Nat.le_of_ble_eq_true rfl) rfl rfl (by decide) (by decide) (k_X12_readPart hS642.1 ta0 (by decide)) ?_
            rintro v665 cn' K' N' I661 R662 L663 ⟨rfl, rfl, rfl, rfl, g664, p666, w667, -⟩
            have hS668 := hS642.tr g664 (by decide +kernel) (by decide +kernel)
            have c669 : I661 a1 2 = v37 := (g664.cell ta1 (by decide +kernel)).trans c643
            have b670 : 1 ≤ v665.toInt ∧ v665.toInt ≤ 1 := by omega
            clear p666
            have hO671 : FrO 14 a1 T I0 I661 := hO645.st g664 (by decide +kernel)
            have ov672 := w667.over (by rw [c648]; omega)
            obtain ⟨v673, c674⟩ : ∃ v, I661 a0 9 = v := ⟨_, rfl⟩
            have b675 := iv15_9 hS668.1 ta0 c674
            obtain ⟨v676, c677⟩ : ∃ v, I661 a0 13 = v := ⟨_, rfl⟩
            obtain ⟨v678, c679⟩ : ∃ v, I661 a0 14 = v := ⟨_, rfl⟩
            (try rw [c674] at ov672)
            (try rw [c677] at ov672)
            (try rw [c679] at ov672)
            (try rw [c648] at ov672)
            (try rw [c651] at ov672)
            (try rw [c653] at ov672)
            refine tr_istore dX12_readEvent_86 (by decide) (by decide) ?_
            refine tr_aload_n dX12_readEvent_88 rfl ?_
            refine q_getI dX12_readEvent_89 fl12_99 (kR15 hS668.1 ta0) c674 ?_
            refine q_iconst dX12_readEvent_92 (by decide) ?_
            intro v680 h681
            refine q_icmp_ne 97 dX12_readEvent_93 (by decide) (fun h682 => ?_) (fun h682 => ?_)
            · skip
              exfalso; omega
            · skip
              have eF := hF.eq
              have eP := hP.eq
              obtain ⟨v683, c684⟩ : ∃ v, I661 a0 10 = v := ⟨_, rfl⟩
              have b685 := iv15_10 hS668.1 ta0 c684
              obtain ⟨v686, c687⟩ : ∃ v, I661 a0 11 = v := ⟨_, rfl⟩
              obtain ⟨y688, c689⟩ : ∃ v, L663 a0 15 = v := ⟨_, rfl⟩
              obtain ⟨v690, c691⟩ : ∃ v, I661 a0 12 = v := ⟨_, rfl⟩
              obtain ⟨v692, c693⟩ : ∃ v, I661 a0 8 = v := ⟨_, rfl⟩
              have b694 := iv15_8 hS668.1 ta0 c693
              exact tr_vret hZ dX12_readEvent_96 rfl (by decide) (by decide) ⟨rfl, rfl, rfl, rfl, rfl, hS668, (fun dr hd => (Option.some.inj (d2.symm.trans hd)) ▸ hO671), (Or.inr (⟨(by first | done | with_reducible assumption | omega), (by (try rw [c674]); first | done | with_reducible assumption | omega), (by (try rw [c677]); first | done | with_reducible assumption | omega), (by (try rw [c679]); first | done | with_reducible assumption | omega), trivial⟩)), trivial⟩
          · skip
            exfalso; omega
        · skip
          exfalso; omega
  · skip
    refine tr_aload_n dX12_readEvent_0 rfl ?_
    refine tr_aload_n dX12_readEvent_1 rfl ?_
    refine tr_getR dX12_readEvent_2 fl12_188 (kR15 hS0.1 ta0) d2 ?_
    refine q_getI dX12_readEvent_5 fl12_265 (kR14 hS0.1 ta1) c38 ?_
    refine q_bipush dX12_readEvent_8 (by decide +kernel) ?_
    intro v695 h696
    refine q_callVv hE (M' := mX12_begins) (as := [_, _]) dX12_readEvent_10 lk12_268 inX12_begins seX12_begins myX12_begins (by decide) ⟨by decide, by decide⟩ rfl (kR15 hS0.1 ta0) (Nat.le_of_ble_eq_true rfl) rfl rfl (by decide) (by decide) (fk_X12_begins hS0.1 (gB) (gs) (gQ) ta0 (TxA.kp hT hS0 ta0 rfl rfl rfl (by decide +kernel) (by decide +kernel)) (by (try rw [c4]); first | done | with_reducible assumption | omega) (by (try rw [c4]); first | done | with_reducible assumption | omega) (by (try rw [c9]); first | done | with_reducible assumption | omega) (by (try rw [c13]); first | done | with_reducible assumption | omega) (by (try rw [c16]); first | done | assumption) (by (try rw [c19]); first | done | assumption) (by (try rw [c22]); first | done | assumption) (by (try rw [c26]); first | done | with_reducible assumption | omega) (fun q0 z0 => by obtain rfl := Option.some.inj ((d2).symm.trans z0); (try rw [c30]); first | done | with_reducible assumption | omega) (by first | done | with_reducible assumption | omega) ⟨_, d2⟩) ?_
    rintro cn' K' N' I697 R698 L699 ⟨rfl, rfl, rfl, rfl, g700, dj703, -⟩
    have hM704 : NmM I697 R0 L0 a1 gQ := NmM.kpS hM0 g700 hS0.1 ta1 (by decide +kernel) (by decide +kernel)
    have hS705 := hS0.tr g700 (by decide +kernel) (by decide +kernel)
    have c706 : I697 a1 2 = v37 := (g700.cell ta1 (by decide +kernel)).trans c38
    have hO707 : FrO 14 a1 T I0 I697 := hO0.st g700 (by decide +kernel)
    rcases dj703 with ⟨p708, p709, p710, p711, p712, p713, p714, p715, p716, p717, gl718, -⟩ | ⟨p719, p720, p721, p722, -⟩ | ⟨p723, p724, p725, p726, p727, -⟩
    · skip
      have hL728 := hL0.tr gl718 (by decide +kernel)
      have hM729 : NmM I697 R0 L699 a1 gQ := NmM.kpL hM704 gl718 hS705.1 ta1 (by decide +kernel)
      obtain ⟨v730, c731⟩ : ∃ v, I697 a0 13 = v := ⟨_, rfl⟩
      rw [c731] at p710
      rw [c65] at p710
      obtain ⟨v732, c733⟩ : ∃ v, I697 a0 9 = v := ⟨_, rfl⟩
      have b734 := iv15_9 hS705.1 ta0 c733
      rw [c733] at p711
      rw [c733] at p712
      obtain ⟨v735, c736⟩ : ∃ v, I697 a0 10 = v := ⟨_, rfl⟩
      have b737 := iv15_10 hS705.1 ta0 c736
      rw [c736] at p713
      obtain ⟨v738, c739⟩ : ∃ v, I697 a0 11 = v := ⟨_, rfl⟩
      rw [c739] at p714
      obtain ⟨y740, c741⟩ : ∃ v, L699 a0 15 = v := ⟨_, rfl⟩
      rw [c741] at p715
      obtain ⟨v742, c743⟩ : ∃ v, I697 a0 12 = v := ⟨_, rfl⟩
      rw [c743] at p716
      obtain ⟨v744, c745⟩ : ∃ v, I697 a0 8 = v := ⟨_, rfl⟩
      have b746 := iv15_8 hS705.1 ta0 c745
      rw [c745] at p717
      have p747 := p61
      unfold Q7M at p747
      replace hF := hF.neg (by omega)
      replace hP := hP.neg (by omega)
      replace hF := hF.neg (by omega)
      replace hP := hP.neg (by omega)
      clear p747
      obtain ⟨w748, w749, w750, w751, w752, w753, w754, w755, w756, w757, w758, w759⟩ := lnl_e (B := gB) (Q := gQ) (s := gs) (by omega) (by omega)
      replace hF := hF.to w748 (evF_c0 (B := gB) (Q := gQ) (k := srt gB gs) (s := (tkN gB gs)) (by omega) (by omega))
      replace hP := hP.to w749 (evP_c0 (B := gB) (Q := gQ) (k := srt gB gs) (s := (tkN gB gs)) (by omega) (by omega))
      refine tr_iload_n dX12_readEvent_13 rfl ?_
      refine q_iconst dX12_readEvent_14 (by decide) ?_
      intro v760 h761
      refine q_icmp_eq 23 dX12_readEvent_15 (by decide) (fun h762 => ?_) (fun h762 => ?_)
      · skip
        exfalso; omega
      · skip
        refine tr_iload_n dX12_readEvent_18 rfl ?_
        refine q_iconst dX12_readEvent_19 (by decide) ?_
        intro v763 h764
        refine q_icmp_ne 40 dX12_readEvent_20 (by decide) (fun h765 => ?_) (fun h765 => ?_)
        · skip
          refine q_bipush dX12_readEvent_40 (by decide +kernel) ?_
          intro v766 h767
          refine tr_istore_n dX12_readEvent_42 (by decide) (by decide) ?_
          refine tr_aload_n dX12_readEvent_43 rfl ?_
          refine q_iconst dX12_readEvent_44 (by decide) ?_
          intro v768 h769
          refine tr_aload_n dX12_readEvent_45 rfl ?_
          refine tr_getR dX12_readEvent_46 fl12_188 (kR15 hS705.1 ta0) d2 ?_
          refine q_getI dX12_readEvent_49 fl12_192 (kR14 hS705.1 ta1) ((hS705.cell ta1 (by decide +kernel)).trans c30) ?_
          refine q_iconst dX12_readEvent_52 (by decide) ?_
          intro v770 h771
          refine q_isubE dX12_readEvent_53 (by intros; omega) ?_
          intro v772 h773
          refine q_callVi hE (M' := mX12_readWhole) (as := [_, _]) dX12_readEvent_54 lk12_161 inX12_readWhole seX12_readWhole myX12_readWhole (by decide) ⟨by decide, by decide⟩ rfl (kR15 hS705.1 ta0) (Nat.le_of_ble_eq_true rfl) rfl rfl (by decide) (by decide) (fk_X12_readWhole hS705.1 (gB) ((tkN gB gs)) ta0 (TxA.kp hT hS705 ta0 rfl rfl rfl (by decide +kernel) (by decide +kernel)) (by (try rw [c733]); first | done | with_reducible assumption | omega) (by (try rw [c733]); first | done | with_reducible assumption | omega) (by (try rw [c736]); first | done | with_reducible assumption | omega) (by (try rw [c739]); first | done | with_reducible assumption | omega) (by (try rw [c741]); first | done | assumption) (by (try rw [c743]); first | done | assumption) (by (try rw [c745]); first | done | assumption) (by (try rw [((hS705.cell ta0 (by decide +kernel)).trans c26)]); first | done | with_reducible assumption | omega)) ?_
          rintro v779 cn' K' N' I774 R775 L776 ⟨rfl, rfl, rfl, rfl, g777, dj780, -⟩
          have hM781 : NmM I774 R0 L699 a1 gQ := NmM.kpS hM729 g777 hS705.1 ta1 (by decide +kernel) (by decide +kernel)
          have hS782 := hS705.tr g777 (by decide +kernel) (by decide +kernel)
          have c783 : I774 a1 2 = v37 := (g777.cell ta1 (by decide +kernel)).trans c706
          have hO784 : FrO 14 a1 T I0 I774 := hO707.st g777 (by decide +kernel)
          rcases dj780 with ⟨p785, p786, p787, p788, p789, p790, p791, p792, p793, p794, p795, p796, gl797, -⟩ | ⟨p798, p799, p800, p801, p802, -⟩ | ⟨p803, p804, p805, p806, p807, p808, -⟩
          · skip
            have hL809 := hL728.tr gl797 (by decide +kernel)
            have hM810 : NmM I774 R0 L776 a1 gQ := NmM.kpL hM781 gl797 hS782.1 ta1 (by decide +kernel)
            obtain ⟨v811, c812⟩ : ∃ v, I774 a0 13 = v := ⟨_, rfl⟩
            rw [c812] at p789
            rw [c731] at p789
            obtain ⟨v813, c814⟩ : ∃ v, I774 a0 9 = v := ⟨_, rfl⟩
            have b815 := iv15_9 hS782.1 ta0 c814
            rw [c814] at p790
            rw [c814] at p791
            obtain ⟨v816, c817⟩ : ∃ v, I774 a0 10 = v := ⟨_, rfl⟩
            have b818 := iv15_10 hS782.1 ta0 c817
            rw [c817] at p792
            obtain ⟨v819, c820⟩ : ∃ v, I774 a0 11 = v := ⟨_, rfl⟩
            rw [c820] at p793
            obtain ⟨y821, c822⟩ : ∃ v, L776 a0 15 = v := ⟨_, rfl⟩
            rw [c822] at p794
            obtain ⟨v823, c824⟩ : ∃ v, I774 a0 12 = v := ⟨_, rfl⟩
            rw [c824] at p795
            obtain ⟨v825, c826⟩ : ∃ v, I774 a0 8 = v := ⟨_, rfl⟩
            have b827 := iv15_8 hS782.1 ta0 c826
            rw [c826] at p796
            replace hF := hF.neg (by omega)
            replace hP := hP.neg (by omega)
            replace hF := hF.neg (by omega)
            replace hP := hP.neg (by omega)
            refine tr_istore_n dX12_readEvent_57 (by decide) (by decide) ?_
            refine tr_iload_n dX12_readEvent_58 rfl ?_
            refine q_iconst dX12_readEvent_59 (by decide) ?_
            intro v828 h829
            refine q_icmp_ne 69 dX12_readEvent_60 (by decide) (fun h830 => ?_) (fun h830 => ?_)
            · skip
              refine tr_aload_n dX12_readEvent_69 rfl ?_
              refine tr_ldcwS dX12_readEvent_70 ld12_272 ?_
              refine tr_iload_n dX12_readEvent_73 rfl ?_
              refine q_iconst dX12_readEvent_74 (by decide) ?_
              intro v831 h832
              refine q_iaddE dX12_readEvent_75 (by intros; omega) ?_
              intro v833 h834
              refine tr_aload_n dX12_readEvent_76 rfl ?_
              refine tr_getR dX12_readEvent_77 fl12_188 (kR15 hS782.1 ta0) d2 ?_
              refine q_getI dX12_readEvent_80 fl12_192 (kR14 hS782.1 ta1) ((hS782.cell ta1 (by decide +kernel)).trans c30) ?_
              refine q_callVi hE (M' := mX12_readPart) (as := [_, _, _]) dX12_readEvent_83 lk12_249 inX12_readPart seX12_readPart myX12_readPart (by decide) ⟨by decide, by decide⟩ rfl (kR15 hS782.1 ta0) (Nat.le_of_ble_eq_true rfl) rfl rfl (by decide) (by decide) (fk_X12_readPart hS782.1 (gB) ((tkN gB (tkN gB gs))) ta0 (by decide) (TxA.kp hT hS782 ta0 rfl rfl rfl (by decide +kernel) (by decide +kernel)) (by (try rw [c814]); first | done | with_reducible assumption | omega) (by (try rw [c814]); first | done | with_reducible assumption | omega) (by (try rw [c817]); first | done | with_reducible assumption | omega) (by (try rw [c820]); first | done | with_reducible assumption | omega) (by (try rw [c822]); first | done | assumption) (by (try rw [c824]); first | done | assumption) (by (try rw [c826]); first | done | assumption) (by (try rw [((hS782.cell ta0 (by decide +kernel)).trans c26)]); first | done | with_reducible assumption | omega)) ?_
              rintro v840 cn' K' N' I835 R836 L837 ⟨rfl, rfl, rfl, rfl, g838, dj841, -⟩
              (try rw [pk_25] at dj841)
              have hM842 : NmM I835 R0 L776 a1 gQ := NmM.kpS hM810 g838 hS782.1 ta1 (by decide +kernel) (by decide +kernel)
              have hS843 := hS782.tr g838 (by decide +kernel) (by decide +kernel)
              have c844 : I835 a1 2 = v37 := (g838.cell ta1 (by decide +kernel)).trans c783
              have hO845 : FrO 14 a1 T I0 I835 := hO784.st g838 (by decide +kernel)
              rcases dj841 with ⟨p846, p847, p848, p849, p850, p851, p852, p853, p854, p855, p856, p857, p858, p859, gl860, -⟩ | ⟨p861, p862, p863, p864, p865, -⟩ | ⟨p866, p867, p868, p869, p870, p871, p872, -⟩ | ⟨p873, p874, p875, p876, p877, p878, p879, p880, -⟩
              · skip
                have hL881 := hL809.tr gl860 (by decide +kernel)
                have hM882 : NmM I835 R0 L837 a1 gQ := NmM.kpL hM842 gl860 hS843.1 ta1 (by decide +kernel)
                obtain ⟨v883, c884⟩ : ∃ v, I835 a0 13 = v := ⟨_, rfl⟩
                rw [c884] at p852
                rw [c812] at p852
                obtain ⟨v885, c886⟩ : ∃ v, I835 a0 9 = v := ⟨_, rfl⟩
                have b887 := iv15_9 hS843.1 ta0 c886
                rw [c886] at p853
                rw [c886] at p854
                obtain ⟨v888, c889⟩ : ∃ v, I835 a0 10 = v := ⟨_, rfl⟩
                have b890 := iv15_10 hS843.1 ta0 c889
                rw [c889] at p855
                obtain ⟨v891, c892⟩ : ∃ v, I835 a0 11 = v := ⟨_, rfl⟩
                rw [c892] at p856
                obtain ⟨y893, c894⟩ : ∃ v, L837 a0 15 = v := ⟨_, rfl⟩
                rw [c894] at p857
                obtain ⟨v895, c896⟩ : ∃ v, I835 a0 12 = v := ⟨_, rfl⟩
                rw [c896] at p858
                obtain ⟨v897, c898⟩ : ∃ v, I835 a0 8 = v := ⟨_, rfl⟩
                have b899 := iv15_8 hS843.1 ta0 c898
                rw [c898] at p859
                replace hF := hF.neg (by omega)
                replace hP := hP.neg (by omega)
                replace hF := hF.neg (by omega)
                replace hP := hP.neg (by omega)
                replace hF := hF.neg (by omega)
                replace hP := hP.neg (by omega)
                refine tr_istore dX12_readEvent_86 (by decide) (by decide) ?_
                refine tr_aload_n dX12_readEvent_88 rfl ?_
                refine q_getI dX12_readEvent_89 fl12_99 (kR15 hS843.1 ta0) c886 ?_
                refine q_iconst dX12_readEvent_92 (by decide) ?_
                intro v900 h901
                refine q_icmp_ne 97 dX12_readEvent_93 (by decide) (fun h902 => ?_) (fun h902 => ?_)
                · skip
                  refine tr_aload_n dX12_readEvent_97 rfl ?_
                  refine tr_getR dX12_readEvent_98 fl12_188 (kR15 hS843.1 ta0) d2 ?_
                  refine q_getI dX12_readEvent_101 fl12_265 (kR14 hS843.1 ta1) c844 ?_
                  refine tr_istore dX12_readEvent_104 (by decide) (by decide) ?_
                  refine tr_aload_n dX12_readEvent_106 rfl ?_
                  refine tr_getR dX12_readEvent_107 fl12_188 (kR15 hS843.1 ta0) d2 ?_
                  obtain ⟨a903, d904, ta903⟩ := rf14_11 hW0 ta1
                  refine tr_getR dX12_readEvent_110 fl12_274 (kR14 hS843.1 ta1) d904 ?_
                  refine tr_iload dX12_readEvent_113 rfl ?_
                  refine tr_iload_n dX12_readEvent_115 rfl ?_
                  refine q_iastX dX12_readEvent_116 (kR54 hS843.1 ta903) (ti_in (nR54 hS843.1 ta903) (by omega) (by omega)) hS843 ta903 (by rfl) (hS843.1.putK (m := a1) ta1 d904 (by rw [c844]; exact Int.le_of_eq (ti_nat (by omega)).symm)) ?_
                  intro I909 hS910 e911 f912
                  have c913 : I909 a1 2 = v37 := (f912 _ _ (fun q => by have z := ta1; rw [q.1, ta903] at z; exact absurd z (by decide))).trans c844
                  have c914 : I909 a0 13 = v883 := (f912 _ _ (fun q => by have z := ta0; rw [q.1, ta903] at z; exact absurd z (by decide))).trans c884
                  have c915 : I909 a0 9 = v885 := (f912 _ _ (fun q => by have z := ta0; rw [q.1, ta903] at z; exact absurd z (by decide))).trans c886
                  have c916 : I909 a0 10 = v888 := (f912 _ _ (fun q => by have z := ta0; rw [q.1, ta903] at z; exact absurd z (by decide))).trans c889
                  have c917 : I909 a0 11 = v891 := (f912 _ _ (fun q => by have z := ta0; rw [q.1, ta903] at z; exact absurd z (by decide))).trans c892
                  have c918 : I909 a0 12 = v895 := (f912 _ _ (fun q => by have z := ta0; rw [q.1, ta903] at z; exact absurd z (by decide))).trans c896
                  have c919 : I909 a0 8 = v897 := (f912 _ _ (fun q => by have z := ta0; rw [q.1, ta903] at z; exact absurd z (by decide))).trans c898
                  have hO920 : FrO 14 a1 T I0 I909 := hO845.put f912 ta903 (Or.inl (by decide))
                  have hM921 : NmM I909 R0 L837 a1 gQ := NmM.kp1 hM882 f912 ta903 rfl rfl hS843.1 ta1
                  refine tr_aload_n dX12_readEvent_117 rfl ?_
                  refine tr_getR dX12_readEvent_118 fl12_188 (kR15 hS910.1 ta0) d2 ?_
                  obtain ⟨a922, d923, ta922⟩ := rf14_12 hW0 ta1
                  refine tr_getR dX12_readEvent_121 fl12_277 (kR14 hS910.1 ta1) d923 ?_
                  refine tr_iload dX12_readEvent_124 rfl ?_
                  refine tr_iload_n dX12_readEvent_126 rfl ?_
                  refine q_iastX dX12_readEvent_127 (kR55 hS910.1 ta922) (ti_in (nR55 hS910.1 ta922) (by omega) (by omega)) hS910 ta922 (by rfl) (hS910.1.putH (m := a1) ta1 d923 (by rw [c913]; exact Int.le_of_eq (ti_nat (by omega)).symm) (by omega)) ?_
                  intro I928 hS929 e930 f931
                  have c932 : I928 a1 2 = v37 := (f931 _ _ (fun q => by have z := ta1; rw [q.1, ta922] at z; exact absurd z (by decide))).trans c913
                  have c933 : I928 a0 13 = v883 := (f931 _ _ (fun q => by have z := ta0; rw [q.1, ta922] at z; exact absurd z (by decide))).trans c914
                  have c934 : I928 a0 9 = v885 := (f931 _ _ (fun q => by have z := ta0; rw [q.1, ta922] at z; exact absurd z (by decide))).trans c915
                  have c935 : I928 a0 10 = v888 := (f931 _ _ (fun q => by have z := ta0; rw [q.1, ta922] at z; exact absurd z (by decide))).trans c916
                  have c936 : I928 a0 11 = v891 := (f931 _ _ (fun q => by have z := ta0; rw [q.1, ta922] at z; exact absurd z (by decide))).trans c917
                  have c937 : I928 a0 12 = v895 := (f931 _ _ (fun q => by have z := ta0; rw [q.1, ta922] at z; exact absurd z (by decide))).trans c918
                  have c938 : I928 a0 8 = v897 := (f931 _ _ (fun q => by have z := ta0; rw [q.1, ta922] at z; exact absurd z (by decide))).trans c919
                  have c939 : I928 a903 v37.toNatClampNeg = x1 := (f931 _ _ (fun q => by have z := ta903; rw [q.1, ta922] at z; exact absurd z (by decide))).trans e911
                  have hO940 : FrO 14 a1 T I0 I928 := hO920.put f931 ta922 (Or.inl (by decide))
                  have hM941 : NmM I928 R0 L837 a1 gQ := NmM.kp1 hM921 f931 ta922 rfl rfl hS910.1 ta1
                  refine tr_aload_n dX12_readEvent_128 rfl ?_
                  refine tr_getR dX12_readEvent_129 fl12_188 (kR15 hS929.1 ta0) d2 ?_
                  obtain ⟨a942, d943, ta942⟩ := rf14_13 hW0 ta1
                  refine tr_getR dX12_readEvent_132 fl12_280 (kR14 hS929.1 ta1) d943 ?_
                  refine tr_iload dX12_readEvent_135 rfl ?_
                  refine tr_iload_n dX12_readEvent_137 rfl ?_
                  refine q_iast dX12_readEvent_138 (kR56 hS929.1 ta942) (ti_in (nR56 hS929.1 ta942) (by omega) (by omega)) hS929 ta942 (by show (0 : Int) ≤ v779.toInt ∧ v779.toInt ≤ (240 : Int); omega) rfl (by rfl) ?_
                  intro I944 hS945 e947 f946
                  have c948 : I944 a1 2 = v37 := (f946 _ _ (fun q => by have z := ta1; rw [q.1, ta942] at z; exact absurd z (by decide))).trans c932
                  have c949 : I944 a0 13 = v883 := (f946 _ _ (fun q => by have z := ta0; rw [q.1, ta942] at z; exact absurd z (by decide))).trans c933
                  have c950 : I944 a0 9 = v885 := (f946 _ _ (fun q => by have z := ta0; rw [q.1, ta942] at z; exact absurd z (by decide))).trans c934
                  have c951 : I944 a0 10 = v888 := (f946 _ _ (fun q => by have z := ta0; rw [q.1, ta942] at z; exact absurd z (by decide))).trans c935
                  have c952 : I944 a0 11 = v891 := (f946 _ _ (fun q => by have z := ta0; rw [q.1, ta942] at z; exact absurd z (by decide))).trans c936
                  have c953 : I944 a0 12 = v895 := (f946 _ _ (fun q => by have z := ta0; rw [q.1, ta942] at z; exact absurd z (by decide))).trans c937
                  have c954 : I944 a0 8 = v897 := (f946 _ _ (fun q => by have z := ta0; rw [q.1, ta942] at z; exact absurd z (by decide))).trans c938
                  have c955 : I944 a903 v37.toNatClampNeg = x1 := (f946 _ _ (fun q => by have z := ta903; rw [q.1, ta942] at z; exact absurd z (by decide))).trans c939
                  have c956 : I944 a922 v37.toNatClampNeg = v766 := (f946 _ _ (fun q => by have z := ta922; rw [q.1, ta942] at z; exact absurd z (by decide))).trans e930
                  have hO957 : FrO 14 a1 T I0 I944 := hO940.put f946 ta942 (Or.inl (by decide))
                  have hM958 : NmM I944 R0 L837 a1 gQ := NmM.kp1 hM941 f946 ta942 rfl rfl hS929.1 ta1
                  refine tr_aload_n dX12_readEvent_139 rfl ?_
                  refine tr_getR dX12_readEvent_140 fl12_188 (kR15 hS945.1 ta0) d2 ?_
                  obtain ⟨a959, d960, ta959⟩ := rf14_14 hW0 ta1
                  refine tr_getR dX12_readEvent_143 fl12_283 (kR14 hS945.1 ta1) d960 ?_
                  refine tr_iload dX12_readEvent_146 rfl ?_
                  refine tr_iload dX12_readEvent_148 rfl ?_
                  refine q_iast dX12_readEvent_150 (kR57 hS945.1 ta959) (ti_in (nR57 hS945.1 ta959) (by omega) (by omega)) hS945 ta959 (by show (0 : Int) ≤ v840.toInt ∧ v840.toInt ≤ (240 : Int); omega) rfl (by rfl) ?_
                  intro I961 hS962 e964 f963
                  have c965 : I961 a1 2 = v37 := (f963 _ _ (fun q => by have z := ta1; rw [q.1, ta959] at z; exact absurd z (by decide))).trans c948
                  have c966 : I961 a0 13 = v883 := (f963 _ _ (fun q => by have z := ta0; rw [q.1, ta959] at z; exact absurd z (by decide))).trans c949
                  have c967 : I961 a0 9 = v885 := (f963 _ _ (fun q => by have z := ta0; rw [q.1, ta959] at z; exact absurd z (by decide))).trans c950
                  have c968 : I961 a0 10 = v888 := (f963 _ _ (fun q => by have z := ta0; rw [q.1, ta959] at z; exact absurd z (by decide))).trans c951
                  have c969 : I961 a0 11 = v891 := (f963 _ _ (fun q => by have z := ta0; rw [q.1, ta959] at z; exact absurd z (by decide))).trans c952
                  have c970 : I961 a0 12 = v895 := (f963 _ _ (fun q => by have z := ta0; rw [q.1, ta959] at z; exact absurd z (by decide))).trans c953
                  have c971 : I961 a0 8 = v897 := (f963 _ _ (fun q => by have z := ta0; rw [q.1, ta959] at z; exact absurd z (by decide))).trans c954
                  have c972 : I961 a903 v37.toNatClampNeg = x1 := (f963 _ _ (fun q => by have z := ta903; rw [q.1, ta959] at z; exact absurd z (by decide))).trans c955
                  have c973 : I961 a922 v37.toNatClampNeg = v766 := (f963 _ _ (fun q => by have z := ta922; rw [q.1, ta959] at z; exact absurd z (by decide))).trans c956
                  have hO974 : FrO 14 a1 T I0 I961 := hO957.put f963 ta959 (Or.inl (by decide))
                  have hM975 : NmM I961 R0 L837 a1 gQ := NmM.kp1 hM958 f963 ta959 rfl rfl hS945.1 ta1
                  refine tr_aload_n dX12_readEvent_151 rfl ?_
                  refine tr_getR dX12_readEvent_152 fl12_188 (kR15 hS962.1 ta0) d2 ?_
                  refine tr_dup dX12_readEvent_155 rfl ?_
                  refine q_getI dX12_readEvent_156 fl12_265 (kR14 hS962.1 ta1) c965 ?_
                  refine q_iconst dX12_readEvent_159 (by decide) ?_
                  intro v976 h977
                  refine q_iaddE dX12_readEvent_160 (by intros; omega) ?_
                  intro v978 h979
                  refine q_putX dX12_readEvent_161 fl12_265 (kR14 hS962.1 ta1) (Or.inl rfl) hS962 ta1 (by decide +kernel) (hS962.1.putE (i := v37.toNatClampNeg) ta1 d904 d923 (by rw [c965]; exact (ti_nat (by omega)).symm) (by rw [c965]; omega) (by omega) (by rw [c972, c973]; omega)) ?_
                  intro I980 hS981 e982 f983
                  have c984 : I980 a0 13 = v883 := (f983 _ _ (fun q => absurd q.2 (by decide))).trans c966
                  have c985 : I980 a0 9 = v885 := (f983 _ _ (fun q => absurd q.2 (by decide))).trans c967
                  have c986 : I980 a0 10 = v888 := (f983 _ _ (fun q => absurd q.2 (by decide))).trans c968
                  have c987 : I980 a0 11 = v891 := (f983 _ _ (fun q => absurd q.2 (by decide))).trans c969
                  have c988 : I980 a0 12 = v895 := (f983 _ _ (fun q => absurd q.2 (by decide))).trans c970
                  have c989 : I980 a0 8 = v897 := (f983 _ _ (fun q => absurd q.2 (by decide))).trans c971
                  have c990 : I980 a903 v37.toNatClampNeg = x1 := (f983 _ _ (fun q => by have z := ta903; rw [q.1, ta1] at z; exact absurd z (by decide))).trans c972
                  have c991 : I980 a922 v37.toNatClampNeg = v766 := (f983 _ _ (fun q => by have z := ta922; rw [q.1, ta1] at z; exact absurd z (by decide))).trans c973
                  have hO992 : FrO 14 a1 T I0 I980 := hO974.put f983 ta1 (Or.inr rfl)
                  have hM993 : NmM I980 R0 L837 a1 gQ := NmM.kp1 hM975 f983 ta1 rfl rfl hS962.1 ta1
                  have eF := hF.eq
                  have eP := hP.eq
                  have es994 := evS_c0 (B := gB) (Q := gQ) (k := srt gB gs) (s := (tkN gB gs)) (by omega) (by omega)
                  obtain ⟨v995, c996⟩ : ∃ v, I980 a0 14 = v := ⟨_, rfl⟩
                  exact tr_vret hZ dX12_readEvent_164 rfl (by decide) (by decide) ⟨rfl, rfl, rfl, rfl, rfl, hS981, (fun dr hd => (Option.some.inj (d2.symm.trans hd)) ▸ hO992), (Or.inl ⟨(by (try rw [w750]); (try rw [es994]); first | done | with_reducible assumption | omega), (fun q0 z0 => by obtain rfl := Option.some.inj ((d2).symm.trans z0); (try rw [w750]); (try rw [es994]); (try rw [((hS981.cell ta1 (by decide +kernel)).trans c30)]); first | done | with_reducible assumption | omega), (fun q0 z0 => by obtain rfl := Option.some.inj ((d2).symm.trans z0); (try rw [w750]); (try rw [es994]); (try rw [((hS981.cell ta1 (by decide +kernel)).trans c34)]); first | done | with_reducible assumption | omega), (fun q0 z0 => by obtain rfl := Option.some.inj ((d2).symm.trans z0); (try rw [w750]); (try rw [es994]); (try rw [e982]); first | done | with_reducible assumption | omega), (fun q0 z0 => by obtain rfl := Option.some.inj ((d2).symm.trans z0); (try rw [w750]); (try rw [es994]); (try rw [((hS981.cell ta1 (by decide +kernel)).trans c42)]); first | done | with_reducible assumption | omega), (fun q0 z0 => by obtain rfl := Option.some.inj ((d2).symm.trans z0); (try rw [w750]); (try rw [es994]); (try rw [((hS981.cell ta1 (by decide +kernel)).trans c46)]); first | done | with_reducible assumption | omega), (fun q0 z0 => by obtain rfl := Option.some.inj ((d2).symm.trans z0); (try rw [w750]); (try rw [es994]); (try rw [((hS981.cell ta1 (by decide +kernel)).trans c50)]); first | done | with_reducible assumption | omega), (fun q0 z0 => by obtain rfl := Option.some.inj ((d2).symm.trans z0); (try rw [w750]); (try rw [es994]); (try rw [((hS981.cell ta1 (by decide +kernel)).trans c54)]); first | done | with_reducible assumption | omega), (fun q0 z0 => by obtain rfl := Option.some.inj ((d2).symm.trans z0); (try rw [w750]); (try rw [es994]); (try rw [((hS981.cell ta1 (by decide +kernel)).trans c58)]); first | done | with_reducible assumption | omega), (by (try rw [w750]); (try rw [es994]); (try rw [c984]); (try rw [c65]); first | done | with_reducible assumption | omega), (by (try rw [w750]); (try rw [es994]); (try rw [c985]); first | done | with_reducible assumption | omega), (by (try rw [w750]); (try rw [es994]); (try rw [c985]); first | done | with_reducible assumption | omega), (by (try rw [w750]); (try rw [es994]); (try rw [c986]); first | done | with_reducible assumption | omega), (by (try rw [w750]); (try rw [es994]); (try rw [c987]); first | done | with_reducible assumption | omega), (by (try rw [w750]); (try rw [es994]); (try rw [c894]); first | done | assumption), (by (try rw [w750]); (try rw [es994]); (try rw [c988]); first | done | assumption), (by (try rw [w750]); (try rw [es994]); (try rw [c989]); first | done | assumption), hL881, (fun b hb => (Option.some.inj (d2.symm.trans hb)) ▸ NmM.ln (NmM.bd (k := srt gB gs) hM993 (by omega) (by omega)) rfl), trivial⟩), trivial⟩
                · skip
                  exfalso; omega
              · skip
                obtain ⟨v997, c998⟩ : ∃ v, I835 a0 9 = v := ⟨_, rfl⟩
                have b999 := iv15_9 hS843.1 ta0 c998
                rw [c998] at p863
                obtain ⟨v1000, c1001⟩ : ∃ v, I835 a0 13 = v := ⟨_, rfl⟩
                rw [c1001] at p864
                obtain ⟨v1002, c1003⟩ : ∃ v, I835 a0 14 = v := ⟨_, rfl⟩
                rw [c1003] at p865
                replace hF := hF.pos (by omega)
                replace hP := hP.pos (by omega)
                refine tr_istore dX12_readEvent_86 (by decide) (by decide) ?_
                refine tr_aload_n dX12_readEvent_88 rfl ?_
                refine q_getI dX12_readEvent_89 fl12_99 (kR15 hS843.1 ta0) c998 ?_
                refine q_iconst dX12_readEvent_92 (by decide) ?_
                intro v1004 h1005
                refine q_icmp_ne 97 dX12_readEvent_93 (by decide) (fun h1006 => ?_) (fun h1006 => ?_)
                · skip
                  exfalso; omega
                · skip
                  have eF := hF.eq
                  have eP := hP.eq
                  obtain ⟨v1007, c1008⟩ : ∃ v, I835 a0 10 = v := ⟨_, rfl⟩
                  have b1009 := iv15_10 hS843.1 ta0 c1008
                  obtain ⟨v1010, c1011⟩ : ∃ v, I835 a0 11 = v := ⟨_, rfl⟩
                  obtain ⟨y1012, c1013⟩ : ∃ v, L837 a0 15 = v := ⟨_, rfl⟩
                  obtain ⟨v1014, c1015⟩ : ∃ v, I835 a0 12 = v := ⟨_, rfl⟩
                  obtain ⟨v1016, c1017⟩ : ∃ v, I835 a0 8 = v := ⟨_, rfl⟩
                  have b1018 := iv15_8 hS843.1 ta0 c1017
                  exact tr_vret hZ dX12_readEvent_96 rfl (by decide) (by decide) ⟨rfl, rfl, rfl, rfl, rfl, hS843, (fun dr hd => (Option.some.inj (d2.symm.trans hd)) ▸ hO845), (Or.inr (⟨(by (try rw [w750]); first | done | with_reducible assumption | omega), (by (try rw [w750]); (try rw [c998]); first | done | with_reducible assumption | omega), (by (try rw [w750]); (try rw [c1001]); first | done | with_reducible assumption | omega), (by (try rw [w750]); (try rw [c1003]); first | done | with_reducible assumption | omega), trivial⟩)), trivial⟩
              · skip
                obtain ⟨v1019, c1020⟩ : ∃ v, I835 a0 9 = v := ⟨_, rfl⟩
                have b1021 := iv15_9 hS843.1 ta0 c1020
                rw [c1020] at p870
                obtain ⟨v1022, c1023⟩ : ∃ v, I835 a0 13 = v := ⟨_, rfl⟩
                rw [c1023] at p871
                obtain ⟨v1024, c1025⟩ : ∃ v, I835 a0 14 = v := ⟨_, rfl⟩
                rw [c1025] at p872
                replace hF := hF.neg (by omega)
                replace hP := hP.neg (by omega)
                replace hF := hF.pos (by omega)
                replace hP := hP.pos (by omega)
                refine tr_istore dX12_readEvent_86 (by decide) (by decide) ?_
                refine tr_aload_n dX12_readEvent_88 rfl ?_
                refine q_getI dX12_readEvent_89 fl12_99 (kR15 hS843.1 ta0) c1020 ?_
                refine q_iconst dX12_readEvent_92 (by decide) ?_
                intro v1026 h1027
                refine q_icmp_ne 97 dX12_readEvent_93 (by decide) (fun h1028 => ?_) (fun h1028 => ?_)
                · skip
                  exfalso; omega
                · skip
                  have eF := hF.eq
                  have eP := hP.eq
                  obtain ⟨v1029, c1030⟩ : ∃ v, I835 a0 10 = v := ⟨_, rfl⟩
                  have b1031 := iv15_10 hS843.1 ta0 c1030
                  obtain ⟨v1032, c1033⟩ : ∃ v, I835 a0 11 = v := ⟨_, rfl⟩
                  obtain ⟨y1034, c1035⟩ : ∃ v, L837 a0 15 = v := ⟨_, rfl⟩
                  obtain ⟨v1036, c1037⟩ : ∃ v, I835 a0 12 = v := ⟨_, rfl⟩
                  obtain ⟨v1038, c1039⟩ : ∃ v, I835 a0 8 = v := ⟨_, rfl⟩
                  have b1040 := iv15_8 hS843.1 ta0 c1039
                  exact tr_vret hZ dX12_readEvent_96 rfl (by decide) (by decide) ⟨rfl, rfl, rfl, rfl, rfl, hS843, (fun dr hd => (Option.some.inj (d2.symm.trans hd)) ▸ hO845), (Or.inr (⟨(by (try rw [w750]); first | done | with_reducible assumption | omega), (by (try rw [w750]); (try rw [c1020]); first | done | with_reducible assumption | omega), (by (try rw [w750]); (try rw [c1023]); first | done | with_reducible assumption | omega), (by (try rw [w750]); (try rw [c1025]); first | done | with_reducible assumption | omega), trivial⟩)), trivial⟩
              · skip
                obtain ⟨v1041, c1042⟩ : ∃ v, I835 a0 9 = v := ⟨_, rfl⟩
                have b1043 := iv15_9 hS843.1 ta0 c1042
                rw [c1042] at p878
                obtain ⟨v1044, c1045⟩ : ∃ v, I835 a0 13 = v := ⟨_, rfl⟩
                rw [c1045] at p879
                obtain ⟨v1046, c1047⟩ : ∃ v, I835 a0 14 = v := ⟨_, rfl⟩
                rw [c1047] at p880
                replace hF := hF.neg (by omega)
                replace hP := hP.neg (by omega)
                replace hF := hF.neg (by omega)
                replace hP := hP.neg (by omega)
                replace hF := hF.pos (by omega)
                replace hP := hP.pos (by omega)
                refine tr_istore dX12_readEvent_86 (by decide) (by decide) ?_
                refine tr_aload_n dX12_readEvent_88 rfl ?_
                refine q_getI dX12_readEvent_89 fl12_99 (kR15 hS843.1 ta0) c1042 ?_
                refine q_iconst dX12_readEvent_92 (by decide) ?_
                intro v1048 h1049
                refine q_icmp_ne 97 dX12_readEvent_93 (by decide) (fun h1050 => ?_) (fun h1050 => ?_)
                · skip
                  exfalso; omega
                · skip
                  have eF := hF.eq
                  have eP := hP.eq
                  obtain ⟨v1051, c1052⟩ : ∃ v, I835 a0 10 = v := ⟨_, rfl⟩
                  have b1053 := iv15_10 hS843.1 ta0 c1052
                  obtain ⟨v1054, c1055⟩ : ∃ v, I835 a0 11 = v := ⟨_, rfl⟩
                  obtain ⟨y1056, c1057⟩ : ∃ v, L837 a0 15 = v := ⟨_, rfl⟩
                  obtain ⟨v1058, c1059⟩ : ∃ v, I835 a0 12 = v := ⟨_, rfl⟩
                  obtain ⟨v1060, c1061⟩ : ∃ v, I835 a0 8 = v := ⟨_, rfl⟩
                  have b1062 := iv15_8 hS843.1 ta0 c1061
                  exact tr_vret hZ dX12_readEvent_96 rfl (by decide) (by decide) ⟨rfl, rfl, rfl, rfl, rfl, hS843, (fun dr hd => (Option.some.inj (d2.symm.trans hd)) ▸ hO845), (Or.inr (⟨(by (try rw [w750]); first | done | with_reducible assumption | omega), (by (try rw [w750]); (try rw [c1042]); first | done | with_reducible assumption | omega), (by (try rw [w750]); (try rw [c1045]); first | done | with_reducible assumption | omega), (by (try rw [w750]); (try rw [c1047]); first | done | with_reducible assumption | omega), trivial⟩)), trivial⟩
            · skip
              exfalso; omega
          · skip
            obtain ⟨v1063, c1064⟩ : ∃ v, I774 a0 9 = v := ⟨_, rfl⟩
            have b1065 := iv15_9 hS782.1 ta0 c1064
            rw [c1064] at p800
            obtain ⟨v1066, c1067⟩ : ∃ v, I774 a0 13 = v := ⟨_, rfl⟩
            rw [c1067] at p801
            obtain ⟨v1068, c1069⟩ : ∃ v, I774 a0 14 = v := ⟨_, rfl⟩
            rw [c1069] at p802
            replace hF := hF.pos (by omega)
            replace hP := hP.pos (by omega)
            refine tr_istore_n dX12_readEvent_57 (by decide) (by decide) ?_
            refine tr_iload_n dX12_readEvent_58 rfl ?_
            refine q_iconst dX12_readEvent_59 (by decide) ?_
            intro v1070 h1071
            refine q_icmp_ne 69 dX12_readEvent_60 (by decide) (fun h1072 => ?_) (fun h1072 => ?_)
            · skip
              refine tr_aload_n dX12_readEvent_69 rfl ?_
              refine tr_ldcwS dX12_readEvent_70 ld12_272 ?_
              refine tr_iload_n dX12_readEvent_73 rfl ?_
              refine q_iconst dX12_readEvent_74 (by decide) ?_
              intro v1073 h1074
              refine q_iaddE dX12_readEvent_75 (by intros; omega) ?_
              intro v1075 h1076
              refine tr_aload_n dX12_readEvent_76 rfl ?_
              refine tr_getR dX12_readEvent_77 fl12_188 (kR15 hS782.1 ta0) d2 ?_
              refine q_getI dX12_readEvent_80 fl12_192 (kR14 hS782.1 ta1) ((hS782.cell ta1 (by decide +kernel)).trans c30) ?_
              refine q_callVi hE (M' := mX12_readPart) (as := [_, _, _]) dX12_readEvent_83 lk12_249 inX12_readPart seX12_readPart myX12_readPart (by decide) ⟨by decide, by decide⟩ rfl (kR15 hS782.1 ta0) (Nat.le_of_ble_eq_true rfl) rfl rfl (by decide) (by decide) (k_X12_readPart hS782.1 ta0 (by decide)) ?_
              rintro v1081 cn' K' N' I1077 R1078 L1079 ⟨rfl, rfl, rfl, rfl, g1080, p1082, w1083, -⟩
              have hS1084 := hS782.tr g1080 (by decide +kernel) (by decide +kernel)
              have c1085 : I1077 a1 2 = v37 := (g1080.cell ta1 (by decide +kernel)).trans c783
              have b1086 : 1 ≤ v1081.toInt ∧ v1081.toInt ≤ 240 := by omega
              clear p1082
              have hO1087 : FrO 14 a1 T I0 I1077 := hO784.st g1080 (by decide +kernel)
              have ov1088 := w1083.over (by rw [c1064]; omega)
              obtain ⟨v1089, c1090⟩ : ∃ v, I1077 a0 9 = v := ⟨_, rfl⟩
              have b1091 := iv15_9 hS1084.1 ta0 c1090
              obtain ⟨v1092, c1093⟩ : ∃ v, I1077 a0 13 = v := ⟨_, rfl⟩
              obtain ⟨v1094, c1095⟩ : ∃ v, I1077 a0 14 = v := ⟨_, rfl⟩
              (try rw [c1090] at ov1088)
              (try rw [c1093] at ov1088)
              (try rw [c1095] at ov1088)
              (try rw [c1064] at ov1088)
              (try rw [c1067] at ov1088)
              (try rw [c1069] at ov1088)
              refine tr_istore dX12_readEvent_86 (by decide) (by decide) ?_
              refine tr_aload_n dX12_readEvent_88 rfl ?_
              refine q_getI dX12_readEvent_89 fl12_99 (kR15 hS1084.1 ta0) c1090 ?_
              refine q_iconst dX12_readEvent_92 (by decide) ?_
              intro v1096 h1097
              refine q_icmp_ne 97 dX12_readEvent_93 (by decide) (fun h1098 => ?_) (fun h1098 => ?_)
              · skip
                exfalso; omega
              · skip
                have eF := hF.eq
                have eP := hP.eq
                obtain ⟨v1099, c1100⟩ : ∃ v, I1077 a0 10 = v := ⟨_, rfl⟩
                have b1101 := iv15_10 hS1084.1 ta0 c1100
                obtain ⟨v1102, c1103⟩ : ∃ v, I1077 a0 11 = v := ⟨_, rfl⟩
                obtain ⟨y1104, c1105⟩ : ∃ v, L1079 a0 15 = v := ⟨_, rfl⟩
                obtain ⟨v1106, c1107⟩ : ∃ v, I1077 a0 12 = v := ⟨_, rfl⟩
                obtain ⟨v1108, c1109⟩ : ∃ v, I1077 a0 8 = v := ⟨_, rfl⟩
                have b1110 := iv15_8 hS1084.1 ta0 c1109
                exact tr_vret hZ dX12_readEvent_96 rfl (by decide) (by decide) ⟨rfl, rfl, rfl, rfl, rfl, hS1084, (fun dr hd => (Option.some.inj (d2.symm.trans hd)) ▸ hO1087), (Or.inr (⟨(by (try rw [w750]); first | done | with_reducible assumption | omega), (by (try rw [w750]); (try rw [c1090]); first | done | with_reducible assumption | omega), (by (try rw [w750]); (try rw [c1093]); first | done | with_reducible assumption | omega), (by (try rw [w750]); (try rw [c1095]); first | done | with_reducible assumption | omega), trivial⟩)), trivial⟩
            · skip
              exfalso; omega
          · skip
            obtain ⟨v1111, c1112⟩ : ∃ v, I774 a0 9 = v := ⟨_, rfl⟩
            have b1113 := iv15_9 hS782.1 ta0 c1112
            rw [c1112] at p806
            obtain ⟨v1114, c1115⟩ : ∃ v, I774 a0 13 = v := ⟨_, rfl⟩
            rw [c1115] at p807
            obtain ⟨v1116, c1117⟩ : ∃ v, I774 a0 14 = v := ⟨_, rfl⟩
            rw [c1117] at p808
            replace hF := hF.neg (by omega)
            replace hP := hP.neg (by omega)
            replace hF := hF.pos (by omega)
            replace hP := hP.pos (by omega)
            refine tr_istore_n dX12_readEvent_57 (by decide) (by decide) ?_
            refine tr_iload_n dX12_readEvent_58 rfl ?_
            refine q_iconst dX12_readEvent_59 (by decide) ?_
            intro v1118 h1119
            refine q_icmp_ne 69 dX12_readEvent_60 (by decide) (fun h1120 => ?_) (fun h1120 => ?_)
            · skip
              refine tr_aload_n dX12_readEvent_69 rfl ?_
              refine tr_ldcwS dX12_readEvent_70 ld12_272 ?_
              refine tr_iload_n dX12_readEvent_73 rfl ?_
              refine q_iconst dX12_readEvent_74 (by decide) ?_
              intro v1121 h1122
              refine q_iaddE dX12_readEvent_75 (by intros; omega) ?_
              intro v1123 h1124
              refine tr_aload_n dX12_readEvent_76 rfl ?_
              refine tr_getR dX12_readEvent_77 fl12_188 (kR15 hS782.1 ta0) d2 ?_
              refine q_getI dX12_readEvent_80 fl12_192 (kR14 hS782.1 ta1) ((hS782.cell ta1 (by decide +kernel)).trans c30) ?_
              refine q_callVi hE (M' := mX12_readPart) (as := [_, _, _]) dX12_readEvent_83 lk12_249 inX12_readPart seX12_readPart myX12_readPart (by decide) ⟨by decide, by decide⟩ rfl (kR15 hS782.1 ta0) (Nat.le_of_ble_eq_true rfl) rfl rfl (by decide) (by decide) (k_X12_readPart hS782.1 ta0 (by decide)) ?_
              rintro v1129 cn' K' N' I1125 R1126 L1127 ⟨rfl, rfl, rfl, rfl, g1128, p1130, w1131, -⟩
              have hS1132 := hS782.tr g1128 (by decide +kernel) (by decide +kernel)
              have c1133 : I1125 a1 2 = v37 := (g1128.cell ta1 (by decide +kernel)).trans c783
              have b1134 : 1 ≤ v1129.toInt ∧ v1129.toInt ≤ 240 := by omega
              clear p1130
              have hO1135 : FrO 14 a1 T I0 I1125 := hO784.st g1128 (by decide +kernel)
              have ov1136 := w1131.over (by rw [c1112]; omega)
              obtain ⟨v1137, c1138⟩ : ∃ v, I1125 a0 9 = v := ⟨_, rfl⟩
              have b1139 := iv15_9 hS1132.1 ta0 c1138
              obtain ⟨v1140, c1141⟩ : ∃ v, I1125 a0 13 = v := ⟨_, rfl⟩
              obtain ⟨v1142, c1143⟩ : ∃ v, I1125 a0 14 = v := ⟨_, rfl⟩
              (try rw [c1138] at ov1136)
              (try rw [c1141] at ov1136)
              (try rw [c1143] at ov1136)
              (try rw [c1112] at ov1136)
              (try rw [c1115] at ov1136)
              (try rw [c1117] at ov1136)
              refine tr_istore dX12_readEvent_86 (by decide) (by decide) ?_
              refine tr_aload_n dX12_readEvent_88 rfl ?_
              refine q_getI dX12_readEvent_89 fl12_99 (kR15 hS1132.1 ta0) c1138 ?_
              refine q_iconst dX12_readEvent_92 (by decide) ?_
              intro v1144 h1145
              refine q_icmp_ne 97 dX12_readEvent_93 (by decide) (fun h1146 => ?_) (fun h1146 => ?_)
              · skip
                exfalso; omega
              · skip
                have eF := hF.eq
                have eP := hP.eq
                obtain ⟨v1147, c1148⟩ : ∃ v, I1125 a0 10 = v := ⟨_, rfl⟩
                have b1149 := iv15_10 hS1132.1 ta0 c1148
                obtain ⟨v1150, c1151⟩ : ∃ v, I1125 a0 11 = v := ⟨_, rfl⟩
                obtain ⟨y1152, c1153⟩ : ∃ v, L1127 a0 15 = v := ⟨_, rfl⟩
                obtain ⟨v1154, c1155⟩ : ∃ v, I1125 a0 12 = v := ⟨_, rfl⟩
                obtain ⟨v1156, c1157⟩ : ∃ v, I1125 a0 8 = v := ⟨_, rfl⟩
                have b1158 := iv15_8 hS1132.1 ta0 c1157
                exact tr_vret hZ dX12_readEvent_96 rfl (by decide) (by decide) ⟨rfl, rfl, rfl, rfl, rfl, hS1132, (fun dr hd => (Option.some.inj (d2.symm.trans hd)) ▸ hO1135), (Or.inr (⟨(by (try rw [w750]); first | done | with_reducible assumption | omega), (by (try rw [w750]); (try rw [c1138]); first | done | with_reducible assumption | omega), (by (try rw [w750]); (try rw [c1141]); first | done | with_reducible assumption | omega), (by (try rw [w750]); (try rw [c1143]); first | done | with_reducible assumption | omega), trivial⟩)), trivial⟩
            · skip
              exfalso; omega
        · skip
          exfalso; omega
    · skip
      obtain ⟨v1159, c1160⟩ : ∃ v, I697 a0 9 = v := ⟨_, rfl⟩
      have b1161 := iv15_9 hS705.1 ta0 c1160
      rw [c1160] at p720
      obtain ⟨v1162, c1163⟩ : ∃ v, I697 a0 13 = v := ⟨_, rfl⟩
      rw [c1163] at p721
      obtain ⟨v1164, c1165⟩ : ∃ v, I697 a0 14 = v := ⟨_, rfl⟩
      rw [c1165] at p722
      have p1166 := p61
      unfold Q7M at p1166
      replace hF := hF.pos (by omega)
      replace hP := hP.pos (by omega)
      clear p1166
      refine tr_iload_n dX12_readEvent_13 rfl ?_
      refine q_iconst dX12_readEvent_14 (by decide) ?_
      intro v1167 h1168
      refine q_icmp_eq 23 dX12_readEvent_15 (by decide) (fun h1169 => ?_) (fun h1169 => ?_)
      · skip
        exfalso; omega
      · skip
        refine tr_iload_n dX12_readEvent_18 rfl ?_
        refine q_iconst dX12_readEvent_19 (by decide) ?_
        intro v1170 h1171
        refine q_icmp_ne 40 dX12_readEvent_20 (by decide) (fun h1172 => ?_) (fun h1172 => ?_)
        · skip
          refine q_bipush dX12_readEvent_40 (by decide +kernel) ?_
          intro v1173 h1174
          refine tr_istore_n dX12_readEvent_42 (by decide) (by decide) ?_
          refine tr_aload_n dX12_readEvent_43 rfl ?_
          refine q_iconst dX12_readEvent_44 (by decide) ?_
          intro v1175 h1176
          refine tr_aload_n dX12_readEvent_45 rfl ?_
          refine tr_getR dX12_readEvent_46 fl12_188 (kR15 hS705.1 ta0) d2 ?_
          refine q_getI dX12_readEvent_49 fl12_192 (kR14 hS705.1 ta1) ((hS705.cell ta1 (by decide +kernel)).trans c30) ?_
          refine q_iconst dX12_readEvent_52 (by decide) ?_
          intro v1177 h1178
          refine q_isubE dX12_readEvent_53 (by intros; omega) ?_
          intro v1179 h1180
          refine q_callVi hE (M' := mX12_readWhole) (as := [_, _]) dX12_readEvent_54 lk12_161 inX12_readWhole seX12_readWhole myX12_readWhole (by decide) ⟨by decide, by decide⟩ rfl (kR15 hS705.1 ta0) (Nat.le_of_ble_eq_true rfl) rfl rfl (by decide) (by decide) (k_X12_readWhole hS705.1 ta0) ?_
          rintro v1185 cn' K' N' I1181 R1182 L1183 ⟨rfl, rfl, rfl, rfl, g1184, p1186, w1187, -⟩
          have hS1188 := hS705.tr g1184 (by decide +kernel) (by decide +kernel)
          have c1189 : I1181 a1 2 = v37 := (g1184.cell ta1 (by decide +kernel)).trans c706
          have b1190 : 0 ≤ v1185.toInt ∧ v1185.toInt ≤ 239 := by omega
          clear p1186
          have hO1191 : FrO 14 a1 T I0 I1181 := hO707.st g1184 (by decide +kernel)
          have ov1192 := w1187.over (by rw [c1160]; omega)
          obtain ⟨v1193, c1194⟩ : ∃ v, I1181 a0 9 = v := ⟨_, rfl⟩
          have b1195 := iv15_9 hS1188.1 ta0 c1194
          obtain ⟨v1196, c1197⟩ : ∃ v, I1181 a0 13 = v := ⟨_, rfl⟩
          obtain ⟨v1198, c1199⟩ : ∃ v, I1181 a0 14 = v := ⟨_, rfl⟩
          (try rw [c1194] at ov1192)
          (try rw [c1197] at ov1192)
          (try rw [c1199] at ov1192)
          (try rw [c1160] at ov1192)
          (try rw [c1163] at ov1192)
          (try rw [c1165] at ov1192)
          refine tr_istore_n dX12_readEvent_57 (by decide) (by decide) ?_
          refine tr_iload_n dX12_readEvent_58 rfl ?_
          refine q_iconst dX12_readEvent_59 (by decide) ?_
          intro v1200 h1201
          refine q_icmp_ne 69 dX12_readEvent_60 (by decide) (fun h1202 => ?_) (fun h1202 => ?_)
          · skip
            refine tr_aload_n dX12_readEvent_69 rfl ?_
            refine tr_ldcwS dX12_readEvent_70 ld12_272 ?_
            refine tr_iload_n dX12_readEvent_73 rfl ?_
            refine q_iconst dX12_readEvent_74 (by decide) ?_
            intro v1203 h1204
            refine q_iaddE dX12_readEvent_75 (by intros; omega) ?_
            intro v1205 h1206
            refine tr_aload_n dX12_readEvent_76 rfl ?_
            refine tr_getR dX12_readEvent_77 fl12_188 (kR15 hS1188.1 ta0) d2 ?_
            refine q_getI dX12_readEvent_80 fl12_192 (kR14 hS1188.1 ta1) ((hS1188.cell ta1 (by decide +kernel)).trans c30) ?_
            refine q_callVi hE (M' := mX12_readPart) (as := [_, _, _]) dX12_readEvent_83 lk12_249 inX12_readPart seX12_readPart myX12_readPart (by decide) ⟨by decide, by decide⟩ rfl (kR15 hS1188.1 ta0) (Nat.le_of_ble_eq_true rfl) rfl rfl (by decide) (by decide) (k_X12_readPart hS1188.1 ta0 (by decide)) ?_
            rintro v1211 cn' K' N' I1207 R1208 L1209 ⟨rfl, rfl, rfl, rfl, g1210, p1212, w1213, -⟩
            have hS1214 := hS1188.tr g1210 (by decide +kernel) (by decide +kernel)
            have c1215 : I1207 a1 2 = v37 := (g1210.cell ta1 (by decide +kernel)).trans c1189
            have b1216 : 1 ≤ v1211.toInt ∧ v1211.toInt ≤ 240 := by omega
            clear p1212
            have hO1217 : FrO 14 a1 T I0 I1207 := hO1191.st g1210 (by decide +kernel)
            have ov1218 := w1213.over (by rw [c1194]; omega)
            obtain ⟨v1219, c1220⟩ : ∃ v, I1207 a0 9 = v := ⟨_, rfl⟩
            have b1221 := iv15_9 hS1214.1 ta0 c1220
            obtain ⟨v1222, c1223⟩ : ∃ v, I1207 a0 13 = v := ⟨_, rfl⟩
            obtain ⟨v1224, c1225⟩ : ∃ v, I1207 a0 14 = v := ⟨_, rfl⟩
            (try rw [c1220] at ov1218)
            (try rw [c1223] at ov1218)
            (try rw [c1225] at ov1218)
            (try rw [c1194] at ov1218)
            (try rw [c1197] at ov1218)
            (try rw [c1199] at ov1218)
            refine tr_istore dX12_readEvent_86 (by decide) (by decide) ?_
            refine tr_aload_n dX12_readEvent_88 rfl ?_
            refine q_getI dX12_readEvent_89 fl12_99 (kR15 hS1214.1 ta0) c1220 ?_
            refine q_iconst dX12_readEvent_92 (by decide) ?_
            intro v1226 h1227
            refine q_icmp_ne 97 dX12_readEvent_93 (by decide) (fun h1228 => ?_) (fun h1228 => ?_)
            · skip
              exfalso; omega
            · skip
              have eF := hF.eq
              have eP := hP.eq
              obtain ⟨v1229, c1230⟩ : ∃ v, I1207 a0 10 = v := ⟨_, rfl⟩
              have b1231 := iv15_10 hS1214.1 ta0 c1230
              obtain ⟨v1232, c1233⟩ : ∃ v, I1207 a0 11 = v := ⟨_, rfl⟩
              obtain ⟨y1234, c1235⟩ : ∃ v, L1209 a0 15 = v := ⟨_, rfl⟩
              obtain ⟨v1236, c1237⟩ : ∃ v, I1207 a0 12 = v := ⟨_, rfl⟩
              obtain ⟨v1238, c1239⟩ : ∃ v, I1207 a0 8 = v := ⟨_, rfl⟩
              have b1240 := iv15_8 hS1214.1 ta0 c1239
              exact tr_vret hZ dX12_readEvent_96 rfl (by decide) (by decide) ⟨rfl, rfl, rfl, rfl, rfl, hS1214, (fun dr hd => (Option.some.inj (d2.symm.trans hd)) ▸ hO1217), (Or.inr (⟨(by first | done | with_reducible assumption | omega), (by (try rw [c1220]); first | done | with_reducible assumption | omega), (by (try rw [c1223]); first | done | with_reducible assumption | omega), (by (try rw [c1225]); first | done | with_reducible assumption | omega), trivial⟩)), trivial⟩
          · skip
            exfalso; omega
        · skip
          exfalso; omega
    · skip
      obtain ⟨v1241, c1242⟩ : ∃ v, I697 a0 9 = v := ⟨_, rfl⟩
      have b1243 := iv15_9 hS705.1 ta0 c1242
      rw [c1242] at p725
      obtain ⟨v1244, c1245⟩ : ∃ v, I697 a0 13 = v := ⟨_, rfl⟩
      rw [c1245] at p726
      obtain ⟨v1246, c1247⟩ : ∃ v, I697 a0 14 = v := ⟨_, rfl⟩
      rw [c1247] at p727
      have p1248 := p61
      unfold Q7M at p1248
      replace hF := hF.neg (by omega)
      replace hP := hP.neg (by omega)
      replace hF := hF.pos (by omega)
      replace hP := hP.pos (by omega)
      clear p1248
      refine tr_iload_n dX12_readEvent_13 rfl ?_
      refine q_iconst dX12_readEvent_14 (by decide) ?_
      intro v1249 h1250
      refine q_icmp_eq 23 dX12_readEvent_15 (by decide) (fun h1251 => ?_) (fun h1251 => ?_)
      · skip
        exfalso; omega
      · skip
        refine tr_iload_n dX12_readEvent_18 rfl ?_
        refine q_iconst dX12_readEvent_19 (by decide) ?_
        intro v1252 h1253
        refine q_icmp_ne 40 dX12_readEvent_20 (by decide) (fun h1254 => ?_) (fun h1254 => ?_)
        · skip
          refine q_bipush dX12_readEvent_40 (by decide +kernel) ?_
          intro v1255 h1256
          refine tr_istore_n dX12_readEvent_42 (by decide) (by decide) ?_
          refine tr_aload_n dX12_readEvent_43 rfl ?_
          refine q_iconst dX12_readEvent_44 (by decide) ?_
          intro v1257 h1258
          refine tr_aload_n dX12_readEvent_45 rfl ?_
          refine tr_getR dX12_readEvent_46 fl12_188 (kR15 hS705.1 ta0) d2 ?_
          refine q_getI dX12_readEvent_49 fl12_192 (kR14 hS705.1 ta1) ((hS705.cell ta1 (by decide +kernel)).trans c30) ?_
          refine q_iconst dX12_readEvent_52 (by decide) ?_
          intro v1259 h1260
          refine q_isubE dX12_readEvent_53 (by intros; omega) ?_
          intro v1261 h1262
          refine q_callVi hE (M' := mX12_readWhole) (as := [_, _]) dX12_readEvent_54 lk12_161 inX12_readWhole seX12_readWhole myX12_readWhole (by decide) ⟨by decide, by decide⟩ rfl (kR15 hS705.1 ta0) (Nat.le_of_ble_eq_true rfl) rfl rfl (by decide) (by decide) (k_X12_readWhole hS705.1 ta0) ?_
          rintro v1267 cn' K' N' I1263 R1264 L1265 ⟨rfl, rfl, rfl, rfl, g1266, p1268, w1269, -⟩
          have hS1270 := hS705.tr g1266 (by decide +kernel) (by decide +kernel)
          have c1271 : I1263 a1 2 = v37 := (g1266.cell ta1 (by decide +kernel)).trans c706
          have b1272 : 0 ≤ v1267.toInt ∧ v1267.toInt ≤ 0 := by omega
          clear p1268
          have hO1273 : FrO 14 a1 T I0 I1263 := hO707.st g1266 (by decide +kernel)
          have ov1274 := w1269.over (by rw [c1242]; omega)
          obtain ⟨v1275, c1276⟩ : ∃ v, I1263 a0 9 = v := ⟨_, rfl⟩
          have b1277 := iv15_9 hS1270.1 ta0 c1276
          obtain ⟨v1278, c1279⟩ : ∃ v, I1263 a0 13 = v := ⟨_, rfl⟩
          obtain ⟨v1280, c1281⟩ : ∃ v, I1263 a0 14 = v := ⟨_, rfl⟩
          (try rw [c1276] at ov1274)
          (try rw [c1279] at ov1274)
          (try rw [c1281] at ov1274)
          (try rw [c1242] at ov1274)
          (try rw [c1245] at ov1274)
          (try rw [c1247] at ov1274)
          refine tr_istore_n dX12_readEvent_57 (by decide) (by decide) ?_
          refine tr_iload_n dX12_readEvent_58 rfl ?_
          refine q_iconst dX12_readEvent_59 (by decide) ?_
          intro v1282 h1283
          refine q_icmp_ne 69 dX12_readEvent_60 (by decide) (fun h1284 => ?_) (fun h1284 => ?_)
          · skip
            refine tr_aload_n dX12_readEvent_69 rfl ?_
            refine tr_ldcwS dX12_readEvent_70 ld12_272 ?_
            refine tr_iload_n dX12_readEvent_73 rfl ?_
            refine q_iconst dX12_readEvent_74 (by decide) ?_
            intro v1285 h1286
            refine q_iaddE dX12_readEvent_75 (by intros; omega) ?_
            intro v1287 h1288
            refine tr_aload_n dX12_readEvent_76 rfl ?_
            refine tr_getR dX12_readEvent_77 fl12_188 (kR15 hS1270.1 ta0) d2 ?_
            refine q_getI dX12_readEvent_80 fl12_192 (kR14 hS1270.1 ta1) ((hS1270.cell ta1 (by decide +kernel)).trans c30) ?_
            refine q_callVi hE (M' := mX12_readPart) (as := [_, _, _]) dX12_readEvent_83 lk12_249 inX12_readPart seX12_readPart myX12_readPart (by decide) ⟨by decide, by decide⟩ rfl (kR15 hS1270.1 ta0) (Nat.le_of_ble_eq_true rfl) rfl rfl (by decide) (by decide) (k_X12_readPart hS1270.1 ta0 (by decide)) ?_
            rintro v1293 cn' K' N' I1289 R1290 L1291 ⟨rfl, rfl, rfl, rfl, g1292, p1294, w1295, -⟩
            have hS1296 := hS1270.tr g1292 (by decide +kernel) (by decide +kernel)
            have c1297 : I1289 a1 2 = v37 := (g1292.cell ta1 (by decide +kernel)).trans c1271
            have b1298 : 1 ≤ v1293.toInt ∧ v1293.toInt ≤ 1 := by omega
            clear p1294
            have hO1299 : FrO 14 a1 T I0 I1289 := hO1273.st g1292 (by decide +kernel)
            have ov1300 := w1295.over (by rw [c1276]; omega)
            obtain ⟨v1301, c1302⟩ : ∃ v, I1289 a0 9 = v := ⟨_, rfl⟩
            have b1303 := iv15_9 hS1296.1 ta0 c1302
            obtain ⟨v1304, c1305⟩ : ∃ v, I1289 a0 13 = v := ⟨_, rfl⟩
            obtain ⟨v1306, c1307⟩ : ∃ v, I1289 a0 14 = v := ⟨_, rfl⟩
            (try rw [c1302] at ov1300)
            (try rw [c1305] at ov1300)
            (try rw [c1307] at ov1300)
            (try rw [c1276] at ov1300)
            (try rw [c1279] at ov1300)
            (try rw [c1281] at ov1300)
            refine tr_istore dX12_readEvent_86 (by decide) (by decide) ?_
            refine tr_aload_n dX12_readEvent_88 rfl ?_
            refine q_getI dX12_readEvent_89 fl12_99 (kR15 hS1296.1 ta0) c1302 ?_
            refine q_iconst dX12_readEvent_92 (by decide) ?_
            intro v1308 h1309
            refine q_icmp_ne 97 dX12_readEvent_93 (by decide) (fun h1310 => ?_) (fun h1310 => ?_)
            · skip
              exfalso; omega
            · skip
              have eF := hF.eq
              have eP := hP.eq
              obtain ⟨v1311, c1312⟩ : ∃ v, I1289 a0 10 = v := ⟨_, rfl⟩
              have b1313 := iv15_10 hS1296.1 ta0 c1312
              obtain ⟨v1314, c1315⟩ : ∃ v, I1289 a0 11 = v := ⟨_, rfl⟩
              obtain ⟨y1316, c1317⟩ : ∃ v, L1291 a0 15 = v := ⟨_, rfl⟩
              obtain ⟨v1318, c1319⟩ : ∃ v, I1289 a0 12 = v := ⟨_, rfl⟩
              obtain ⟨v1320, c1321⟩ : ∃ v, I1289 a0 8 = v := ⟨_, rfl⟩
              have b1322 := iv15_8 hS1296.1 ta0 c1321
              exact tr_vret hZ dX12_readEvent_96 rfl (by decide) (by decide) ⟨rfl, rfl, rfl, rfl, rfl, hS1296, (fun dr hd => (Option.some.inj (d2.symm.trans hd)) ▸ hO1299), (Or.inr (⟨(by first | done | with_reducible assumption | omega), (by (try rw [c1302]); first | done | with_reducible assumption | omega), (by (try rw [c1305]); first | done | with_reducible assumption | omega), (by (try rw [c1307]); first | done | with_reducible assumption | omega), trivial⟩)), trivial⟩
          · skip
            exfalso; omega
        · skip
          exfalso; omega
  · skip
    refine tr_aload_n dX12_readEvent_0 rfl ?_
    refine tr_aload_n dX12_readEvent_1 rfl ?_
    refine tr_getR dX12_readEvent_2 fl12_188 (kR15 hS0.1 ta0) d2 ?_
    refine q_getI dX12_readEvent_5 fl12_265 (kR14 hS0.1 ta1) c38 ?_
    refine q_bipush dX12_readEvent_8 (by decide +kernel) ?_
    intro v1323 h1324
    refine q_callVv hE (M' := mX12_begins) (as := [_, _]) dX12_readEvent_10 lk12_268 inX12_begins seX12_begins myX12_begins (by decide) ⟨by decide, by decide⟩ rfl (kR15 hS0.1 ta0) (Nat.le_of_ble_eq_true rfl) rfl rfl (by decide) (by decide) (fk_X12_begins hS0.1 (gB) (gs) (gQ) ta0 (TxA.kp hT hS0 ta0 rfl rfl rfl (by decide +kernel) (by decide +kernel)) (by (try rw [c4]); first | done | with_reducible assumption | omega) (by (try rw [c4]); first | done | with_reducible assumption | omega) (by (try rw [c9]); first | done | with_reducible assumption | omega) (by (try rw [c13]); first | done | with_reducible assumption | omega) (by (try rw [c16]); first | done | assumption) (by (try rw [c19]); first | done | assumption) (by (try rw [c22]); first | done | assumption) (by (try rw [c26]); first | done | with_reducible assumption | omega) (fun q0 z0 => by obtain rfl := Option.some.inj ((d2).symm.trans z0); (try rw [c30]); first | done | with_reducible assumption | omega) (by first | done | with_reducible assumption | omega) ⟨_, d2⟩) ?_
    rintro cn' K' N' I1325 R1326 L1327 ⟨rfl, rfl, rfl, rfl, g1328, dj1331, -⟩
    have hM1332 : NmM I1325 R0 L0 a1 gQ := NmM.kpS hM0 g1328 hS0.1 ta1 (by decide +kernel) (by decide +kernel)
    have hS1333 := hS0.tr g1328 (by decide +kernel) (by decide +kernel)
    have c1334 : I1325 a1 2 = v37 := (g1328.cell ta1 (by decide +kernel)).trans c38
    have hO1335 : FrO 14 a1 T I0 I1325 := hO0.st g1328 (by decide +kernel)
    rcases dj1331 with ⟨p1336, p1337, p1338, p1339, p1340, p1341, p1342, p1343, p1344, p1345, gl1346, -⟩ | ⟨p1347, p1348, p1349, p1350, -⟩ | ⟨p1351, p1352, p1353, p1354, p1355, -⟩
    · skip
      have hL1356 := hL0.tr gl1346 (by decide +kernel)
      have hM1357 : NmM I1325 R0 L1327 a1 gQ := NmM.kpL hM1332 gl1346 hS1333.1 ta1 (by decide +kernel)
      obtain ⟨v1358, c1359⟩ : ∃ v, I1325 a0 13 = v := ⟨_, rfl⟩
      rw [c1359] at p1338
      rw [c65] at p1338
      obtain ⟨v1360, c1361⟩ : ∃ v, I1325 a0 9 = v := ⟨_, rfl⟩
      have b1362 := iv15_9 hS1333.1 ta0 c1361
      rw [c1361] at p1339
      rw [c1361] at p1340
      obtain ⟨v1363, c1364⟩ : ∃ v, I1325 a0 10 = v := ⟨_, rfl⟩
      have b1365 := iv15_10 hS1333.1 ta0 c1364
      rw [c1364] at p1341
      obtain ⟨v1366, c1367⟩ : ∃ v, I1325 a0 11 = v := ⟨_, rfl⟩
      rw [c1367] at p1342
      obtain ⟨y1368, c1369⟩ : ∃ v, L1327 a0 15 = v := ⟨_, rfl⟩
      rw [c1369] at p1343
      obtain ⟨v1370, c1371⟩ : ∃ v, I1325 a0 12 = v := ⟨_, rfl⟩
      rw [c1371] at p1344
      obtain ⟨v1372, c1373⟩ : ∃ v, I1325 a0 8 = v := ⟨_, rfl⟩
      have b1374 := iv15_8 hS1333.1 ta0 c1373
      rw [c1373] at p1345
      have p1375 := p61
      unfold Q7M at p1375
      replace hF := hF.neg (by omega)
      replace hP := hP.neg (by omega)
      replace hF := hF.neg (by omega)
      replace hP := hP.neg (by omega)
      clear p1375
      obtain ⟨w1376, w1377, w1378, w1379, w1380, w1381, w1382, w1383, w1384, w1385, w1386, w1387⟩ := lnl_e (B := gB) (Q := gQ) (s := gs) (by omega) (by omega)
      replace hF := hF.to w1376 (evF_c2 (B := gB) (Q := gQ) (k := srt gB gs) (s := (tkN gB gs)) (by omega))
      replace hP := hP.to w1377 (evP_c2 (B := gB) (Q := gQ) (k := srt gB gs) (s := (tkN gB gs)) (by omega))
      refine tr_iload_n dX12_readEvent_13 rfl ?_
      refine q_iconst dX12_readEvent_14 (by decide) ?_
      intro v1388 h1389
      refine q_icmp_eq 23 dX12_readEvent_15 (by decide) (fun h1390 => ?_) (fun h1390 => ?_)
      · skip
        refine tr_aload_n dX12_readEvent_23 rfl ?_
        refine q_iconst dX12_readEvent_24 (by decide) ?_
        intro v1391 h1392
        refine tr_aload_n dX12_readEvent_25 rfl ?_
        refine tr_getR dX12_readEvent_26 fl12_188 (kR15 hS1333.1 ta0) d2 ?_
        refine q_getI dX12_readEvent_29 fl12_263 (kR14 hS1333.1 ta1) ((hS1333.cell ta1 (by decide +kernel)).trans c34) ?_
        refine q_iconst dX12_readEvent_32 (by decide) ?_
        intro v1393 h1394
        refine q_isubE dX12_readEvent_33 (by intros; omega) ?_
        intro v1395 h1396
        refine q_callVi hE (M' := mX12_readWhole) (as := [_, _]) dX12_readEvent_34 lk12_161 inX12_readWhole seX12_readWhole myX12_readWhole (by decide) ⟨by decide, by decide⟩ rfl (kR15 hS1333.1 ta0) (Nat.le_of_ble_eq_true rfl) rfl rfl (by decide) (by decide) (fk_X12_readWhole hS1333.1 (gB) ((tkN gB gs)) ta0 (TxA.kp hT hS1333 ta0 rfl rfl rfl (by decide +kernel) (by decide +kernel)) (by (try rw [c1361]); first | done | with_reducible assumption | omega) (by (try rw [c1361]); first | done | with_reducible assumption | omega) (by (try rw [c1364]); first | done | with_reducible assumption | omega) (by (try rw [c1367]); first | done | with_reducible assumption | omega) (by (try rw [c1369]); first | done | assumption) (by (try rw [c1371]); first | done | assumption) (by (try rw [c1373]); first | done | assumption) (by (try rw [((hS1333.cell ta0 (by decide +kernel)).trans c26)]); first | done | with_reducible assumption | omega)) ?_
        rintro v1402 cn' K' N' I1397 R1398 L1399 ⟨rfl, rfl, rfl, rfl, g1400, dj1403, -⟩
        have hM1404 : NmM I1397 R0 L1327 a1 gQ := NmM.kpS hM1357 g1400 hS1333.1 ta1 (by decide +kernel) (by decide +kernel)
        have hS1405 := hS1333.tr g1400 (by decide +kernel) (by decide +kernel)
        have c1406 : I1397 a1 2 = v37 := (g1400.cell ta1 (by decide +kernel)).trans c1334
        have hO1407 : FrO 14 a1 T I0 I1397 := hO1335.st g1400 (by decide +kernel)
        rcases dj1403 with ⟨p1408, p1409, p1410, p1411, p1412, p1413, p1414, p1415, p1416, p1417, p1418, p1419, gl1420, -⟩ | ⟨p1421, p1422, p1423, p1424, p1425, -⟩ | ⟨p1426, p1427, p1428, p1429, p1430, p1431, -⟩
        · skip
          have hL1432 := hL1356.tr gl1420 (by decide +kernel)
          have hM1433 : NmM I1397 R0 L1399 a1 gQ := NmM.kpL hM1404 gl1420 hS1405.1 ta1 (by decide +kernel)
          obtain ⟨v1434, c1435⟩ : ∃ v, I1397 a0 13 = v := ⟨_, rfl⟩
          rw [c1435] at p1412
          rw [c1359] at p1412
          obtain ⟨v1436, c1437⟩ : ∃ v, I1397 a0 9 = v := ⟨_, rfl⟩
          have b1438 := iv15_9 hS1405.1 ta0 c1437
          rw [c1437] at p1413
          rw [c1437] at p1414
          obtain ⟨v1439, c1440⟩ : ∃ v, I1397 a0 10 = v := ⟨_, rfl⟩
          have b1441 := iv15_10 hS1405.1 ta0 c1440
          rw [c1440] at p1415
          obtain ⟨v1442, c1443⟩ : ∃ v, I1397 a0 11 = v := ⟨_, rfl⟩
          rw [c1443] at p1416
          obtain ⟨y1444, c1445⟩ : ∃ v, L1399 a0 15 = v := ⟨_, rfl⟩
          rw [c1445] at p1417
          obtain ⟨v1446, c1447⟩ : ∃ v, I1397 a0 12 = v := ⟨_, rfl⟩
          rw [c1447] at p1418
          obtain ⟨v1448, c1449⟩ : ∃ v, I1397 a0 8 = v := ⟨_, rfl⟩
          have b1450 := iv15_8 hS1405.1 ta0 c1449
          rw [c1449] at p1419
          replace hF := hF.neg (by omega)
          replace hP := hP.neg (by omega)
          replace hF := hF.neg (by omega)
          replace hP := hP.neg (by omega)
          refine tr_goto 42 dX12_readEvent_37 (by decide) ?_
          refine tr_istore_n dX12_readEvent_42 (by decide) (by decide) ?_
          refine tr_aload_n dX12_readEvent_43 rfl ?_
          refine q_iconst dX12_readEvent_44 (by decide) ?_
          intro v1451 h1452
          refine tr_aload_n dX12_readEvent_45 rfl ?_
          refine tr_getR dX12_readEvent_46 fl12_188 (kR15 hS1405.1 ta0) d2 ?_
          refine q_getI dX12_readEvent_49 fl12_192 (kR14 hS1405.1 ta1) ((hS1405.cell ta1 (by decide +kernel)).trans c30) ?_
          refine q_iconst dX12_readEvent_52 (by decide) ?_
          intro v1453 h1454
          refine q_isubE dX12_readEvent_53 (by intros; omega) ?_
          intro v1455 h1456
          refine q_callVi hE (M' := mX12_readWhole) (as := [_, _]) dX12_readEvent_54 lk12_161 inX12_readWhole seX12_readWhole myX12_readWhole (by decide) ⟨by decide, by decide⟩ rfl (kR15 hS1405.1 ta0) (Nat.le_of_ble_eq_true rfl) rfl rfl (by decide) (by decide) (fk_X12_readWhole hS1405.1 (gB) ((tkN gB (tkN gB gs))) ta0 (TxA.kp hT hS1405 ta0 rfl rfl rfl (by decide +kernel) (by decide +kernel)) (by (try rw [c1437]); first | done | with_reducible assumption | omega) (by (try rw [c1437]); first | done | with_reducible assumption | omega) (by (try rw [c1440]); first | done | with_reducible assumption | omega) (by (try rw [c1443]); first | done | with_reducible assumption | omega) (by (try rw [c1445]); first | done | assumption) (by (try rw [c1447]); first | done | assumption) (by (try rw [c1449]); first | done | assumption) (by (try rw [((hS1405.cell ta0 (by decide +kernel)).trans c26)]); first | done | with_reducible assumption | omega)) ?_
          rintro v1462 cn' K' N' I1457 R1458 L1459 ⟨rfl, rfl, rfl, rfl, g1460, dj1463, -⟩
          have hM1464 : NmM I1457 R0 L1399 a1 gQ := NmM.kpS hM1433 g1460 hS1405.1 ta1 (by decide +kernel) (by decide +kernel)
          have hS1465 := hS1405.tr g1460 (by decide +kernel) (by decide +kernel)
          have c1466 : I1457 a1 2 = v37 := (g1460.cell ta1 (by decide +kernel)).trans c1406
          have hO1467 : FrO 14 a1 T I0 I1457 := hO1407.st g1460 (by decide +kernel)
          rcases dj1463 with ⟨p1468, p1469, p1470, p1471, p1472, p1473, p1474, p1475, p1476, p1477, p1478, p1479, gl1480, -⟩ | ⟨p1481, p1482, p1483, p1484, p1485, -⟩ | ⟨p1486, p1487, p1488, p1489, p1490, p1491, -⟩
          · skip
            have hL1492 := hL1432.tr gl1480 (by decide +kernel)
            have hM1493 : NmM I1457 R0 L1459 a1 gQ := NmM.kpL hM1464 gl1480 hS1465.1 ta1 (by decide +kernel)
            obtain ⟨v1494, c1495⟩ : ∃ v, I1457 a0 13 = v := ⟨_, rfl⟩
            rw [c1495] at p1472
            rw [c1435] at p1472
            obtain ⟨v1496, c1497⟩ : ∃ v, I1457 a0 9 = v := ⟨_, rfl⟩
            have b1498 := iv15_9 hS1465.1 ta0 c1497
            rw [c1497] at p1473
            rw [c1497] at p1474
            obtain ⟨v1499, c1500⟩ : ∃ v, I1457 a0 10 = v := ⟨_, rfl⟩
            have b1501 := iv15_10 hS1465.1 ta0 c1500
            rw [c1500] at p1475
            obtain ⟨v1502, c1503⟩ : ∃ v, I1457 a0 11 = v := ⟨_, rfl⟩
            rw [c1503] at p1476
            obtain ⟨y1504, c1505⟩ : ∃ v, L1459 a0 15 = v := ⟨_, rfl⟩
            rw [c1505] at p1477
            obtain ⟨v1506, c1507⟩ : ∃ v, I1457 a0 12 = v := ⟨_, rfl⟩
            rw [c1507] at p1478
            obtain ⟨v1508, c1509⟩ : ∃ v, I1457 a0 8 = v := ⟨_, rfl⟩
            have b1510 := iv15_8 hS1465.1 ta0 c1509
            rw [c1509] at p1479
            replace hF := hF.neg (by omega)
            replace hP := hP.neg (by omega)
            replace hF := hF.neg (by omega)
            replace hP := hP.neg (by omega)
            refine tr_istore_n dX12_readEvent_57 (by decide) (by decide) ?_
            refine tr_iload_n dX12_readEvent_58 rfl ?_
            refine q_iconst dX12_readEvent_59 (by decide) ?_
            intro v1511 h1512
            refine q_icmp_ne 69 dX12_readEvent_60 (by decide) (fun h1513 => ?_) (fun h1513 => ?_)
            · skip
              refine tr_aload_n dX12_readEvent_69 rfl ?_
              refine tr_ldcwS dX12_readEvent_70 ld12_272 ?_
              refine tr_iload_n dX12_readEvent_73 rfl ?_
              refine q_iconst dX12_readEvent_74 (by decide) ?_
              intro v1514 h1515
              refine q_iaddE dX12_readEvent_75 (by intros; omega) ?_
              intro v1516 h1517
              refine tr_aload_n dX12_readEvent_76 rfl ?_
              refine tr_getR dX12_readEvent_77 fl12_188 (kR15 hS1465.1 ta0) d2 ?_
              refine q_getI dX12_readEvent_80 fl12_192 (kR14 hS1465.1 ta1) ((hS1465.cell ta1 (by decide +kernel)).trans c30) ?_
              refine q_callVi hE (M' := mX12_readPart) (as := [_, _, _]) dX12_readEvent_83 lk12_249 inX12_readPart seX12_readPart myX12_readPart (by decide) ⟨by decide, by decide⟩ rfl (kR15 hS1465.1 ta0) (Nat.le_of_ble_eq_true rfl) rfl rfl (by decide) (by decide) (fk_X12_readPart hS1465.1 (gB) ((tkN gB (tkN gB (tkN gB gs)))) ta0 (by decide) (TxA.kp hT hS1465 ta0 rfl rfl rfl (by decide +kernel) (by decide +kernel)) (by (try rw [c1497]); first | done | with_reducible assumption | omega) (by (try rw [c1497]); first | done | with_reducible assumption | omega) (by (try rw [c1500]); first | done | with_reducible assumption | omega) (by (try rw [c1503]); first | done | with_reducible assumption | omega) (by (try rw [c1505]); first | done | assumption) (by (try rw [c1507]); first | done | assumption) (by (try rw [c1509]); first | done | assumption) (by (try rw [((hS1465.cell ta0 (by decide +kernel)).trans c26)]); first | done | with_reducible assumption | omega)) ?_
              rintro v1523 cn' K' N' I1518 R1519 L1520 ⟨rfl, rfl, rfl, rfl, g1521, dj1524, -⟩
              (try rw [pk_25] at dj1524)
              have hM1525 : NmM I1518 R0 L1459 a1 gQ := NmM.kpS hM1493 g1521 hS1465.1 ta1 (by decide +kernel) (by decide +kernel)
              have hS1526 := hS1465.tr g1521 (by decide +kernel) (by decide +kernel)
              have c1527 : I1518 a1 2 = v37 := (g1521.cell ta1 (by decide +kernel)).trans c1466
              have hO1528 : FrO 14 a1 T I0 I1518 := hO1467.st g1521 (by decide +kernel)
              rcases dj1524 with ⟨p1529, p1530, p1531, p1532, p1533, p1534, p1535, p1536, p1537, p1538, p1539, p1540, p1541, p1542, gl1543, -⟩ | ⟨p1544, p1545, p1546, p1547, p1548, -⟩ | ⟨p1549, p1550, p1551, p1552, p1553, p1554, p1555, -⟩ | ⟨p1556, p1557, p1558, p1559, p1560, p1561, p1562, p1563, -⟩
              · skip
                have hL1564 := hL1492.tr gl1543 (by decide +kernel)
                have hM1565 : NmM I1518 R0 L1520 a1 gQ := NmM.kpL hM1525 gl1543 hS1526.1 ta1 (by decide +kernel)
                obtain ⟨v1566, c1567⟩ : ∃ v, I1518 a0 13 = v := ⟨_, rfl⟩
                rw [c1567] at p1535
                rw [c1495] at p1535
                obtain ⟨v1568, c1569⟩ : ∃ v, I1518 a0 9 = v := ⟨_, rfl⟩
                have b1570 := iv15_9 hS1526.1 ta0 c1569
                rw [c1569] at p1536
                rw [c1569] at p1537
                obtain ⟨v1571, c1572⟩ : ∃ v, I1518 a0 10 = v := ⟨_, rfl⟩
                have b1573 := iv15_10 hS1526.1 ta0 c1572
                rw [c1572] at p1538
                obtain ⟨v1574, c1575⟩ : ∃ v, I1518 a0 11 = v := ⟨_, rfl⟩
                rw [c1575] at p1539
                obtain ⟨y1576, c1577⟩ : ∃ v, L1520 a0 15 = v := ⟨_, rfl⟩
                rw [c1577] at p1540
                obtain ⟨v1578, c1579⟩ : ∃ v, I1518 a0 12 = v := ⟨_, rfl⟩
                rw [c1579] at p1541
                obtain ⟨v1580, c1581⟩ : ∃ v, I1518 a0 8 = v := ⟨_, rfl⟩
                have b1582 := iv15_8 hS1526.1 ta0 c1581
                rw [c1581] at p1542
                replace hF := hF.neg (by omega)
                replace hP := hP.neg (by omega)
                replace hF := hF.neg (by omega)
                replace hP := hP.neg (by omega)
                replace hF := hF.neg (by omega)
                replace hP := hP.neg (by omega)
                refine tr_istore dX12_readEvent_86 (by decide) (by decide) ?_
                refine tr_aload_n dX12_readEvent_88 rfl ?_
                refine q_getI dX12_readEvent_89 fl12_99 (kR15 hS1526.1 ta0) c1569 ?_
                refine q_iconst dX12_readEvent_92 (by decide) ?_
                intro v1583 h1584
                refine q_icmp_ne 97 dX12_readEvent_93 (by decide) (fun h1585 => ?_) (fun h1585 => ?_)
                · skip
                  refine tr_aload_n dX12_readEvent_97 rfl ?_
                  refine tr_getR dX12_readEvent_98 fl12_188 (kR15 hS1526.1 ta0) d2 ?_
                  refine q_getI dX12_readEvent_101 fl12_265 (kR14 hS1526.1 ta1) c1527 ?_
                  refine tr_istore dX12_readEvent_104 (by decide) (by decide) ?_
                  refine tr_aload_n dX12_readEvent_106 rfl ?_
                  refine tr_getR dX12_readEvent_107 fl12_188 (kR15 hS1526.1 ta0) d2 ?_
                  obtain ⟨a1586, d1587, ta1586⟩ := rf14_11 hW0 ta1
                  refine tr_getR dX12_readEvent_110 fl12_274 (kR14 hS1526.1 ta1) d1587 ?_
                  refine tr_iload dX12_readEvent_113 rfl ?_
                  refine tr_iload_n dX12_readEvent_115 rfl ?_
                  refine q_iastX dX12_readEvent_116 (kR54 hS1526.1 ta1586) (ti_in (nR54 hS1526.1 ta1586) (by omega) (by omega)) hS1526 ta1586 (by rfl) (hS1526.1.putK (m := a1) ta1 d1587 (by rw [c1527]; exact Int.le_of_eq (ti_nat (by omega)).symm)) ?_
                  intro I1592 hS1593 e1594 f1595
                  have c1596 : I1592 a1 2 = v37 := (f1595 _ _ (fun q => by have z := ta1; rw [q.1, ta1586] at z; exact absurd z (by decide))).trans c1527
                  have c1597 : I1592 a0 13 = v1566 := (f1595 _ _ (fun q => by have z := ta0; rw [q.1, ta1586] at z; exact absurd z (by decide))).trans c1567
                  have c1598 : I1592 a0 9 = v1568 := (f1595 _ _ (fun q => by have z := ta0; rw [q.1, ta1586] at z; exact absurd z (by decide))).trans c1569
                  have c1599 : I1592 a0 10 = v1571 := (f1595 _ _ (fun q => by have z := ta0; rw [q.1, ta1586] at z; exact absurd z (by decide))).trans c1572
                  have c1600 : I1592 a0 11 = v1574 := (f1595 _ _ (fun q => by have z := ta0; rw [q.1, ta1586] at z; exact absurd z (by decide))).trans c1575
                  have c1601 : I1592 a0 12 = v1578 := (f1595 _ _ (fun q => by have z := ta0; rw [q.1, ta1586] at z; exact absurd z (by decide))).trans c1579
                  have c1602 : I1592 a0 8 = v1580 := (f1595 _ _ (fun q => by have z := ta0; rw [q.1, ta1586] at z; exact absurd z (by decide))).trans c1581
                  have hO1603 : FrO 14 a1 T I0 I1592 := hO1528.put f1595 ta1586 (Or.inl (by decide))
                  have hM1604 : NmM I1592 R0 L1520 a1 gQ := NmM.kp1 hM1565 f1595 ta1586 rfl rfl hS1526.1 ta1
                  refine tr_aload_n dX12_readEvent_117 rfl ?_
                  refine tr_getR dX12_readEvent_118 fl12_188 (kR15 hS1593.1 ta0) d2 ?_
                  obtain ⟨a1605, d1606, ta1605⟩ := rf14_12 hW0 ta1
                  refine tr_getR dX12_readEvent_121 fl12_277 (kR14 hS1593.1 ta1) d1606 ?_
                  refine tr_iload dX12_readEvent_124 rfl ?_
                  refine tr_iload_n dX12_readEvent_126 rfl ?_
                  refine q_iastX dX12_readEvent_127 (kR55 hS1593.1 ta1605) (ti_in (nR55 hS1593.1 ta1605) (by omega) (by omega)) hS1593 ta1605 (by rfl) (hS1593.1.putH (m := a1) ta1 d1606 (by rw [c1596]; exact Int.le_of_eq (ti_nat (by omega)).symm) (by omega)) ?_
                  intro I1611 hS1612 e1613 f1614
                  have c1615 : I1611 a1 2 = v37 := (f1614 _ _ (fun q => by have z := ta1; rw [q.1, ta1605] at z; exact absurd z (by decide))).trans c1596
                  have c1616 : I1611 a0 13 = v1566 := (f1614 _ _ (fun q => by have z := ta0; rw [q.1, ta1605] at z; exact absurd z (by decide))).trans c1597
                  have c1617 : I1611 a0 9 = v1568 := (f1614 _ _ (fun q => by have z := ta0; rw [q.1, ta1605] at z; exact absurd z (by decide))).trans c1598
                  have c1618 : I1611 a0 10 = v1571 := (f1614 _ _ (fun q => by have z := ta0; rw [q.1, ta1605] at z; exact absurd z (by decide))).trans c1599
                  have c1619 : I1611 a0 11 = v1574 := (f1614 _ _ (fun q => by have z := ta0; rw [q.1, ta1605] at z; exact absurd z (by decide))).trans c1600
                  have c1620 : I1611 a0 12 = v1578 := (f1614 _ _ (fun q => by have z := ta0; rw [q.1, ta1605] at z; exact absurd z (by decide))).trans c1601
                  have c1621 : I1611 a0 8 = v1580 := (f1614 _ _ (fun q => by have z := ta0; rw [q.1, ta1605] at z; exact absurd z (by decide))).trans c1602
                  have c1622 : I1611 a1586 v37.toNatClampNeg = x1 := (f1614 _ _ (fun q => by have z := ta1586; rw [q.1, ta1605] at z; exact absurd z (by decide))).trans e1594
                  have hO1623 : FrO 14 a1 T I0 I1611 := hO1603.put f1614 ta1605 (Or.inl (by decide))
                  have hM1624 : NmM I1611 R0 L1520 a1 gQ := NmM.kp1 hM1604 f1614 ta1605 rfl rfl hS1593.1 ta1
                  refine tr_aload_n dX12_readEvent_128 rfl ?_
                  refine tr_getR dX12_readEvent_129 fl12_188 (kR15 hS1612.1 ta0) d2 ?_
                  obtain ⟨a1625, d1626, ta1625⟩ := rf14_13 hW0 ta1
                  refine tr_getR dX12_readEvent_132 fl12_280 (kR14 hS1612.1 ta1) d1626 ?_
                  refine tr_iload dX12_readEvent_135 rfl ?_
                  refine tr_iload_n dX12_readEvent_137 rfl ?_
                  refine q_iast dX12_readEvent_138 (kR56 hS1612.1 ta1625) (ti_in (nR56 hS1612.1 ta1625) (by omega) (by omega)) hS1612 ta1625 (by show (0 : Int) ≤ v1462.toInt ∧ v1462.toInt ≤ (240 : Int); omega) rfl (by rfl) ?_
                  intro I1627 hS1628 e1630 f1629
                  have c1631 : I1627 a1 2 = v37 := (f1629 _ _ (fun q => by have z := ta1; rw [q.1, ta1625] at z; exact absurd z (by decide))).trans c1615
                  have c1632 : I1627 a0 13 = v1566 := (f1629 _ _ (fun q => by have z := ta0; rw [q.1, ta1625] at z; exact absurd z (by decide))).trans c1616
                  have c1633 : I1627 a0 9 = v1568 := (f1629 _ _ (fun q => by have z := ta0; rw [q.1, ta1625] at z; exact absurd z (by decide))).trans c1617
                  have c1634 : I1627 a0 10 = v1571 := (f1629 _ _ (fun q => by have z := ta0; rw [q.1, ta1625] at z; exact absurd z (by decide))).trans c1618
                  have c1635 : I1627 a0 11 = v1574 := (f1629 _ _ (fun q => by have z := ta0; rw [q.1, ta1625] at z; exact absurd z (by decide))).trans c1619
                  have c1636 : I1627 a0 12 = v1578 := (f1629 _ _ (fun q => by have z := ta0; rw [q.1, ta1625] at z; exact absurd z (by decide))).trans c1620
                  have c1637 : I1627 a0 8 = v1580 := (f1629 _ _ (fun q => by have z := ta0; rw [q.1, ta1625] at z; exact absurd z (by decide))).trans c1621
                  have c1638 : I1627 a1586 v37.toNatClampNeg = x1 := (f1629 _ _ (fun q => by have z := ta1586; rw [q.1, ta1625] at z; exact absurd z (by decide))).trans c1622
                  have c1639 : I1627 a1605 v37.toNatClampNeg = v1402 := (f1629 _ _ (fun q => by have z := ta1605; rw [q.1, ta1625] at z; exact absurd z (by decide))).trans e1613
                  have hO1640 : FrO 14 a1 T I0 I1627 := hO1623.put f1629 ta1625 (Or.inl (by decide))
                  have hM1641 : NmM I1627 R0 L1520 a1 gQ := NmM.kp1 hM1624 f1629 ta1625 rfl rfl hS1612.1 ta1
                  refine tr_aload_n dX12_readEvent_139 rfl ?_
                  refine tr_getR dX12_readEvent_140 fl12_188 (kR15 hS1628.1 ta0) d2 ?_
                  obtain ⟨a1642, d1643, ta1642⟩ := rf14_14 hW0 ta1
                  refine tr_getR dX12_readEvent_143 fl12_283 (kR14 hS1628.1 ta1) d1643 ?_
                  refine tr_iload dX12_readEvent_146 rfl ?_
                  refine tr_iload dX12_readEvent_148 rfl ?_
                  refine q_iast dX12_readEvent_150 (kR57 hS1628.1 ta1642) (ti_in (nR57 hS1628.1 ta1642) (by omega) (by omega)) hS1628 ta1642 (by show (0 : Int) ≤ v1523.toInt ∧ v1523.toInt ≤ (240 : Int); omega) rfl (by rfl) ?_
                  intro I1644 hS1645 e1647 f1646
                  have c1648 : I1644 a1 2 = v37 := (f1646 _ _ (fun q => by have z := ta1; rw [q.1, ta1642] at z; exact absurd z (by decide))).trans c1631
                  have c1649 : I1644 a0 13 = v1566 := (f1646 _ _ (fun q => by have z := ta0; rw [q.1, ta1642] at z; exact absurd z (by decide))).trans c1632
                  have c1650 : I1644 a0 9 = v1568 := (f1646 _ _ (fun q => by have z := ta0; rw [q.1, ta1642] at z; exact absurd z (by decide))).trans c1633
                  have c1651 : I1644 a0 10 = v1571 := (f1646 _ _ (fun q => by have z := ta0; rw [q.1, ta1642] at z; exact absurd z (by decide))).trans c1634
                  have c1652 : I1644 a0 11 = v1574 := (f1646 _ _ (fun q => by have z := ta0; rw [q.1, ta1642] at z; exact absurd z (by decide))).trans c1635
                  have c1653 : I1644 a0 12 = v1578 := (f1646 _ _ (fun q => by have z := ta0; rw [q.1, ta1642] at z; exact absurd z (by decide))).trans c1636
                  have c1654 : I1644 a0 8 = v1580 := (f1646 _ _ (fun q => by have z := ta0; rw [q.1, ta1642] at z; exact absurd z (by decide))).trans c1637
                  have c1655 : I1644 a1586 v37.toNatClampNeg = x1 := (f1646 _ _ (fun q => by have z := ta1586; rw [q.1, ta1642] at z; exact absurd z (by decide))).trans c1638
                  have c1656 : I1644 a1605 v37.toNatClampNeg = v1402 := (f1646 _ _ (fun q => by have z := ta1605; rw [q.1, ta1642] at z; exact absurd z (by decide))).trans c1639
                  have hO1657 : FrO 14 a1 T I0 I1644 := hO1640.put f1646 ta1642 (Or.inl (by decide))
                  have hM1658 : NmM I1644 R0 L1520 a1 gQ := NmM.kp1 hM1641 f1646 ta1642 rfl rfl hS1628.1 ta1
                  refine tr_aload_n dX12_readEvent_151 rfl ?_
                  refine tr_getR dX12_readEvent_152 fl12_188 (kR15 hS1645.1 ta0) d2 ?_
                  refine tr_dup dX12_readEvent_155 rfl ?_
                  refine q_getI dX12_readEvent_156 fl12_265 (kR14 hS1645.1 ta1) c1648 ?_
                  refine q_iconst dX12_readEvent_159 (by decide) ?_
                  intro v1659 h1660
                  refine q_iaddE dX12_readEvent_160 (by intros; omega) ?_
                  intro v1661 h1662
                  refine q_putX dX12_readEvent_161 fl12_265 (kR14 hS1645.1 ta1) (Or.inl rfl) hS1645 ta1 (by decide +kernel) (hS1645.1.putE (i := v37.toNatClampNeg) ta1 d1587 d1606 (by rw [c1648]; exact (ti_nat (by omega)).symm) (by rw [c1648]; omega) (by omega) (by rw [c1655, c1656]; omega)) ?_
                  intro I1663 hS1664 e1665 f1666
                  have c1667 : I1663 a0 13 = v1566 := (f1666 _ _ (fun q => absurd q.2 (by decide))).trans c1649
                  have c1668 : I1663 a0 9 = v1568 := (f1666 _ _ (fun q => absurd q.2 (by decide))).trans c1650
                  have c1669 : I1663 a0 10 = v1571 := (f1666 _ _ (fun q => absurd q.2 (by decide))).trans c1651
                  have c1670 : I1663 a0 11 = v1574 := (f1666 _ _ (fun q => absurd q.2 (by decide))).trans c1652
                  have c1671 : I1663 a0 12 = v1578 := (f1666 _ _ (fun q => absurd q.2 (by decide))).trans c1653
                  have c1672 : I1663 a0 8 = v1580 := (f1666 _ _ (fun q => absurd q.2 (by decide))).trans c1654
                  have c1673 : I1663 a1586 v37.toNatClampNeg = x1 := (f1666 _ _ (fun q => by have z := ta1586; rw [q.1, ta1] at z; exact absurd z (by decide))).trans c1655
                  have c1674 : I1663 a1605 v37.toNatClampNeg = v1402 := (f1666 _ _ (fun q => by have z := ta1605; rw [q.1, ta1] at z; exact absurd z (by decide))).trans c1656
                  have hO1675 : FrO 14 a1 T I0 I1663 := hO1657.put f1666 ta1 (Or.inr rfl)
                  have hM1676 : NmM I1663 R0 L1520 a1 gQ := NmM.kp1 hM1658 f1666 ta1 rfl rfl hS1645.1 ta1
                  have eF := hF.eq
                  have eP := hP.eq
                  have es1677 := evS_c2 (B := gB) (Q := gQ) (k := srt gB gs) (s := (tkN gB gs)) (by omega)
                  obtain ⟨v1678, c1679⟩ : ∃ v, I1663 a0 14 = v := ⟨_, rfl⟩
                  exact tr_vret hZ dX12_readEvent_164 rfl (by decide) (by decide) ⟨rfl, rfl, rfl, rfl, rfl, hS1664, (fun dr hd => (Option.some.inj (d2.symm.trans hd)) ▸ hO1675), (Or.inl ⟨(by (try rw [w1378]); (try rw [es1677]); first | done | with_reducible assumption | omega), (fun q0 z0 => by obtain rfl := Option.some.inj ((d2).symm.trans z0); (try rw [w1378]); (try rw [es1677]); (try rw [((hS1664.cell ta1 (by decide +kernel)).trans c30)]); first | done | with_reducible assumption | omega), (fun q0 z0 => by obtain rfl := Option.some.inj ((d2).symm.trans z0); (try rw [w1378]); (try rw [es1677]); (try rw [((hS1664.cell ta1 (by decide +kernel)).trans c34)]); first | done | with_reducible assumption | omega), (fun q0 z0 => by obtain rfl := Option.some.inj ((d2).symm.trans z0); (try rw [w1378]); (try rw [es1677]); (try rw [e1665]); first | done | with_reducible assumption | omega), (fun q0 z0 => by obtain rfl := Option.some.inj ((d2).symm.trans z0); (try rw [w1378]); (try rw [es1677]); (try rw [((hS1664.cell ta1 (by decide +kernel)).trans c42)]); first | done | with_reducible assumption | omega), (fun q0 z0 => by obtain rfl := Option.some.inj ((d2).symm.trans z0); (try rw [w1378]); (try rw [es1677]); (try rw [((hS1664.cell ta1 (by decide +kernel)).trans c46)]); first | done | with_reducible assumption | omega), (fun q0 z0 => by obtain rfl := Option.some.inj ((d2).symm.trans z0); (try rw [w1378]); (try rw [es1677]); (try rw [((hS1664.cell ta1 (by decide +kernel)).trans c50)]); first | done | with_reducible assumption | omega), (fun q0 z0 => by obtain rfl := Option.some.inj ((d2).symm.trans z0); (try rw [w1378]); (try rw [es1677]); (try rw [((hS1664.cell ta1 (by decide +kernel)).trans c54)]); first | done | with_reducible assumption | omega), (fun q0 z0 => by obtain rfl := Option.some.inj ((d2).symm.trans z0); (try rw [w1378]); (try rw [es1677]); (try rw [((hS1664.cell ta1 (by decide +kernel)).trans c58)]); first | done | with_reducible assumption | omega), (by (try rw [w1378]); (try rw [es1677]); (try rw [c1667]); (try rw [c65]); first | done | with_reducible assumption | omega), (by (try rw [w1378]); (try rw [es1677]); (try rw [c1668]); first | done | with_reducible assumption | omega), (by (try rw [w1378]); (try rw [es1677]); (try rw [c1668]); first | done | with_reducible assumption | omega), (by (try rw [w1378]); (try rw [es1677]); (try rw [c1669]); first | done | with_reducible assumption | omega), (by (try rw [w1378]); (try rw [es1677]); (try rw [c1670]); first | done | with_reducible assumption | omega), (by (try rw [w1378]); (try rw [es1677]); (try rw [c1577]); first | done | assumption), (by (try rw [w1378]); (try rw [es1677]); (try rw [c1671]); first | done | assumption), (by (try rw [w1378]); (try rw [es1677]); (try rw [c1672]); first | done | assumption), hL1564, (fun b hb => (Option.some.inj (d2.symm.trans hb)) ▸ NmM.ln (NmM.bd (k := srt gB gs) hM1676 (by omega) (by omega)) rfl), trivial⟩), trivial⟩
                · skip
                  exfalso; omega
              · skip
                obtain ⟨v1680, c1681⟩ : ∃ v, I1518 a0 9 = v := ⟨_, rfl⟩
                have b1682 := iv15_9 hS1526.1 ta0 c1681
                rw [c1681] at p1546
                obtain ⟨v1683, c1684⟩ : ∃ v, I1518 a0 13 = v := ⟨_, rfl⟩
                rw [c1684] at p1547
                obtain ⟨v1685, c1686⟩ : ∃ v, I1518 a0 14 = v := ⟨_, rfl⟩
                rw [c1686] at p1548
                replace hF := hF.pos (by omega)
                replace hP := hP.pos (by omega)
                refine tr_istore dX12_readEvent_86 (by decide) (by decide) ?_
                refine tr_aload_n dX12_readEvent_88 rfl ?_
                refine q_getI dX12_readEvent_89 fl12_99 (kR15 hS1526.1 ta0) c1681 ?_
                refine q_iconst dX12_readEvent_92 (by decide) ?_
                intro v1687 h1688
                refine q_icmp_ne 97 dX12_readEvent_93 (by decide) (fun h1689 => ?_) (fun h1689 => ?_)
                · skip
                  exfalso; omega
                · skip
                  have eF := hF.eq
                  have eP := hP.eq
                  obtain ⟨v1690, c1691⟩ : ∃ v, I1518 a0 10 = v := ⟨_, rfl⟩
                  have b1692 := iv15_10 hS1526.1 ta0 c1691
                  obtain ⟨v1693, c1694⟩ : ∃ v, I1518 a0 11 = v := ⟨_, rfl⟩
                  obtain ⟨y1695, c1696⟩ : ∃ v, L1520 a0 15 = v := ⟨_, rfl⟩
                  obtain ⟨v1697, c1698⟩ : ∃ v, I1518 a0 12 = v := ⟨_, rfl⟩
                  obtain ⟨v1699, c1700⟩ : ∃ v, I1518 a0 8 = v := ⟨_, rfl⟩
                  have b1701 := iv15_8 hS1526.1 ta0 c1700
                  exact tr_vret hZ dX12_readEvent_96 rfl (by decide) (by decide) ⟨rfl, rfl, rfl, rfl, rfl, hS1526, (fun dr hd => (Option.some.inj (d2.symm.trans hd)) ▸ hO1528), (Or.inr (⟨(by (try rw [w1378]); first | done | with_reducible assumption | omega), (by (try rw [w1378]); (try rw [c1681]); first | done | with_reducible assumption | omega), (by (try rw [w1378]); (try rw [c1684]); first | done | with_reducible assumption | omega), (by (try rw [w1378]); (try rw [c1686]); first | done | with_reducible assumption | omega), trivial⟩)), trivial⟩
              · skip
                obtain ⟨v1702, c1703⟩ : ∃ v, I1518 a0 9 = v := ⟨_, rfl⟩
                have b1704 := iv15_9 hS1526.1 ta0 c1703
                rw [c1703] at p1553
                obtain ⟨v1705, c1706⟩ : ∃ v, I1518 a0 13 = v := ⟨_, rfl⟩
                rw [c1706] at p1554
                obtain ⟨v1707, c1708⟩ : ∃ v, I1518 a0 14 = v := ⟨_, rfl⟩
                rw [c1708] at p1555
                replace hF := hF.neg (by omega)
                replace hP := hP.neg (by omega)
                replace hF := hF.pos (by omega)
                replace hP := hP.pos (by omega)
                refine tr_istore dX12_readEvent_86 (by decide) (by decide) ?_
                refine tr_aload_n dX12_readEvent_88 rfl ?_
                refine q_getI dX12_readEvent_89 fl12_99 (kR15 hS1526.1 ta0) c1703 ?_
                refine q_iconst dX12_readEvent_92 (by decide) ?_
                intro v1709 h1710
                refine q_icmp_ne 97 dX12_readEvent_93 (by decide) (fun h1711 => ?_) (fun h1711 => ?_)
                · skip
                  exfalso; omega
                · skip
                  have eF := hF.eq
                  have eP := hP.eq
                  obtain ⟨v1712, c1713⟩ : ∃ v, I1518 a0 10 = v := ⟨_, rfl⟩
                  have b1714 := iv15_10 hS1526.1 ta0 c1713
                  obtain ⟨v1715, c1716⟩ : ∃ v, I1518 a0 11 = v := ⟨_, rfl⟩
                  obtain ⟨y1717, c1718⟩ : ∃ v, L1520 a0 15 = v := ⟨_, rfl⟩
                  obtain ⟨v1719, c1720⟩ : ∃ v, I1518 a0 12 = v := ⟨_, rfl⟩
                  obtain ⟨v1721, c1722⟩ : ∃ v, I1518 a0 8 = v := ⟨_, rfl⟩
                  have b1723 := iv15_8 hS1526.1 ta0 c1722
                  exact tr_vret hZ dX12_readEvent_96 rfl (by decide) (by decide) ⟨rfl, rfl, rfl, rfl, rfl, hS1526, (fun dr hd => (Option.some.inj (d2.symm.trans hd)) ▸ hO1528), (Or.inr (⟨(by (try rw [w1378]); first | done | with_reducible assumption | omega), (by (try rw [w1378]); (try rw [c1703]); first | done | with_reducible assumption | omega), (by (try rw [w1378]); (try rw [c1706]); first | done | with_reducible assumption | omega), (by (try rw [w1378]); (try rw [c1708]); first | done | with_reducible assumption | omega), trivial⟩)), trivial⟩
              · skip
                obtain ⟨v1724, c1725⟩ : ∃ v, I1518 a0 9 = v := ⟨_, rfl⟩
                have b1726 := iv15_9 hS1526.1 ta0 c1725
                rw [c1725] at p1561
                obtain ⟨v1727, c1728⟩ : ∃ v, I1518 a0 13 = v := ⟨_, rfl⟩
                rw [c1728] at p1562
                obtain ⟨v1729, c1730⟩ : ∃ v, I1518 a0 14 = v := ⟨_, rfl⟩
                rw [c1730] at p1563
                replace hF := hF.neg (by omega)
                replace hP := hP.neg (by omega)
                replace hF := hF.neg (by omega)
                replace hP := hP.neg (by omega)
                replace hF := hF.pos (by omega)
                replace hP := hP.pos (by omega)
                refine tr_istore dX12_readEvent_86 (by decide) (by decide) ?_
                refine tr_aload_n dX12_readEvent_88 rfl ?_
                refine q_getI dX12_readEvent_89 fl12_99 (kR15 hS1526.1 ta0) c1725 ?_
                refine q_iconst dX12_readEvent_92 (by decide) ?_
                intro v1731 h1732
                refine q_icmp_ne 97 dX12_readEvent_93 (by decide) (fun h1733 => ?_) (fun h1733 => ?_)
                · skip
                  exfalso; omega
                · skip
                  have eF := hF.eq
                  have eP := hP.eq
                  obtain ⟨v1734, c1735⟩ : ∃ v, I1518 a0 10 = v := ⟨_, rfl⟩
                  have b1736 := iv15_10 hS1526.1 ta0 c1735
                  obtain ⟨v1737, c1738⟩ : ∃ v, I1518 a0 11 = v := ⟨_, rfl⟩
                  obtain ⟨y1739, c1740⟩ : ∃ v, L1520 a0 15 = v := ⟨_, rfl⟩
                  obtain ⟨v1741, c1742⟩ : ∃ v, I1518 a0 12 = v := ⟨_, rfl⟩
                  obtain ⟨v1743, c1744⟩ : ∃ v, I1518 a0 8 = v := ⟨_, rfl⟩
                  have b1745 := iv15_8 hS1526.1 ta0 c1744
                  exact tr_vret hZ dX12_readEvent_96 rfl (by decide) (by decide) ⟨rfl, rfl, rfl, rfl, rfl, hS1526, (fun dr hd => (Option.some.inj (d2.symm.trans hd)) ▸ hO1528), (Or.inr (⟨(by (try rw [w1378]); first | done | with_reducible assumption | omega), (by (try rw [w1378]); (try rw [c1725]); first | done | with_reducible assumption | omega), (by (try rw [w1378]); (try rw [c1728]); first | done | with_reducible assumption | omega), (by (try rw [w1378]); (try rw [c1730]); first | done | with_reducible assumption | omega), trivial⟩)), trivial⟩
            · skip
              exfalso; omega
          · skip
            obtain ⟨v1746, c1747⟩ : ∃ v, I1457 a0 9 = v := ⟨_, rfl⟩
            have b1748 := iv15_9 hS1465.1 ta0 c1747
            rw [c1747] at p1483
            obtain ⟨v1749, c1750⟩ : ∃ v, I1457 a0 13 = v := ⟨_, rfl⟩
            rw [c1750] at p1484
            obtain ⟨v1751, c1752⟩ : ∃ v, I1457 a0 14 = v := ⟨_, rfl⟩
            rw [c1752] at p1485
            replace hF := hF.pos (by omega)
            replace hP := hP.pos (by omega)
            refine tr_istore_n dX12_readEvent_57 (by decide) (by decide) ?_
            refine tr_iload_n dX12_readEvent_58 rfl ?_
            refine q_iconst dX12_readEvent_59 (by decide) ?_
            intro v1753 h1754
            refine q_icmp_ne 69 dX12_readEvent_60 (by decide) (fun h1755 => ?_) (fun h1755 => ?_)
            · skip
              refine tr_aload_n dX12_readEvent_69 rfl ?_
              refine tr_ldcwS dX12_readEvent_70 ld12_272 ?_
              refine tr_iload_n dX12_readEvent_73 rfl ?_
              refine q_iconst dX12_readEvent_74 (by decide) ?_
              intro v1756 h1757
              refine q_iaddE dX12_readEvent_75 (by intros; omega) ?_
              intro v1758 h1759
              refine tr_aload_n dX12_readEvent_76 rfl ?_
              refine tr_getR dX12_readEvent_77 fl12_188 (kR15 hS1465.1 ta0) d2 ?_
              refine q_getI dX12_readEvent_80 fl12_192 (kR14 hS1465.1 ta1) ((hS1465.cell ta1 (by decide +kernel)).trans c30) ?_
              refine q_callVi hE (M' := mX12_readPart) (as := [_, _, _]) dX12_readEvent_83 lk12_249 inX12_readPart seX12_readPart myX12_readPart (by decide) ⟨by decide, by decide⟩ rfl (kR15 hS1465.1 ta0) (Nat.le_of_ble_eq_true rfl) rfl rfl (by decide) (by decide) (k_X12_readPart hS1465.1 ta0 (by decide)) ?_
              rintro v1764 cn' K' N' I1760 R1761 L1762 ⟨rfl, rfl, rfl, rfl, g1763, p1765, w1766, -⟩
              have hS1767 := hS1465.tr g1763 (by decide +kernel) (by decide +kernel)
              have c1768 : I1760 a1 2 = v37 := (g1763.cell ta1 (by decide +kernel)).trans c1466
              have b1769 : 1 ≤ v1764.toInt ∧ v1764.toInt ≤ 240 := by omega
              clear p1765
              have hO1770 : FrO 14 a1 T I0 I1760 := hO1467.st g1763 (by decide +kernel)
              have ov1771 := w1766.over (by rw [c1747]; omega)
              obtain ⟨v1772, c1773⟩ : ∃ v, I1760 a0 9 = v := ⟨_, rfl⟩
              have b1774 := iv15_9 hS1767.1 ta0 c1773
              obtain ⟨v1775, c1776⟩ : ∃ v, I1760 a0 13 = v := ⟨_, rfl⟩
              obtain ⟨v1777, c1778⟩ : ∃ v, I1760 a0 14 = v := ⟨_, rfl⟩
              (try rw [c1773] at ov1771)
              (try rw [c1776] at ov1771)
              (try rw [c1778] at ov1771)
              (try rw [c1747] at ov1771)
              (try rw [c1750] at ov1771)
              (try rw [c1752] at ov1771)
              refine tr_istore dX12_readEvent_86 (by decide) (by decide) ?_
              refine tr_aload_n dX12_readEvent_88 rfl ?_
              refine q_getI dX12_readEvent_89 fl12_99 (kR15 hS1767.1 ta0) c1773 ?_
              refine q_iconst dX12_readEvent_92 (by decide) ?_
              intro v1779 h1780
              refine q_icmp_ne 97 dX12_readEvent_93 (by decide) (fun h1781 => ?_) (fun h1781 => ?_)
              · skip
                exfalso; omega
              · skip
                have eF := hF.eq
                have eP := hP.eq
                obtain ⟨v1782, c1783⟩ : ∃ v, I1760 a0 10 = v := ⟨_, rfl⟩
                have b1784 := iv15_10 hS1767.1 ta0 c1783
                obtain ⟨v1785, c1786⟩ : ∃ v, I1760 a0 11 = v := ⟨_, rfl⟩
                obtain ⟨y1787, c1788⟩ : ∃ v, L1762 a0 15 = v := ⟨_, rfl⟩
                obtain ⟨v1789, c1790⟩ : ∃ v, I1760 a0 12 = v := ⟨_, rfl⟩
                obtain ⟨v1791, c1792⟩ : ∃ v, I1760 a0 8 = v := ⟨_, rfl⟩
                have b1793 := iv15_8 hS1767.1 ta0 c1792
                exact tr_vret hZ dX12_readEvent_96 rfl (by decide) (by decide) ⟨rfl, rfl, rfl, rfl, rfl, hS1767, (fun dr hd => (Option.some.inj (d2.symm.trans hd)) ▸ hO1770), (Or.inr (⟨(by (try rw [w1378]); first | done | with_reducible assumption | omega), (by (try rw [w1378]); (try rw [c1773]); first | done | with_reducible assumption | omega), (by (try rw [w1378]); (try rw [c1776]); first | done | with_reducible assumption | omega), (by (try rw [w1378]); (try rw [c1778]); first | done | with_reducible assumption | omega), trivial⟩)), trivial⟩
            · skip
              exfalso; omega
          · skip
            obtain ⟨v1794, c1795⟩ : ∃ v, I1457 a0 9 = v := ⟨_, rfl⟩
            have b1796 := iv15_9 hS1465.1 ta0 c1795
            rw [c1795] at p1489
            obtain ⟨v1797, c1798⟩ : ∃ v, I1457 a0 13 = v := ⟨_, rfl⟩
            rw [c1798] at p1490
            obtain ⟨v1799, c1800⟩ : ∃ v, I1457 a0 14 = v := ⟨_, rfl⟩
            rw [c1800] at p1491
            replace hF := hF.neg (by omega)
            replace hP := hP.neg (by omega)
            replace hF := hF.pos (by omega)
            replace hP := hP.pos (by omega)
            refine tr_istore_n dX12_readEvent_57 (by decide) (by decide) ?_
            refine tr_iload_n dX12_readEvent_58 rfl ?_
            refine q_iconst dX12_readEvent_59 (by decide) ?_
            intro v1801 h1802
            refine q_icmp_ne 69 dX12_readEvent_60 (by decide) (fun h1803 => ?_) (fun h1803 => ?_)
            · skip
              refine tr_aload_n dX12_readEvent_69 rfl ?_
              refine tr_ldcwS dX12_readEvent_70 ld12_272 ?_
              refine tr_iload_n dX12_readEvent_73 rfl ?_
              refine q_iconst dX12_readEvent_74 (by decide) ?_
              intro v1804 h1805
              refine q_iaddE dX12_readEvent_75 (by intros; omega) ?_
              intro v1806 h1807
              refine tr_aload_n dX12_readEvent_76 rfl ?_
              refine tr_getR dX12_readEvent_77 fl12_188 (kR15 hS1465.1 ta0) d2 ?_
              refine q_getI dX12_readEvent_80 fl12_192 (kR14 hS1465.1 ta1) ((hS1465.cell ta1 (by decide +kernel)).trans c30) ?_
              refine q_callVi hE (M' := mX12_readPart) (as := [_, _, _]) dX12_readEvent_83 lk12_249 inX12_readPart seX12_readPart myX12_readPart (by decide) ⟨by decide, by decide⟩ rfl (kR15 hS1465.1 ta0) (Nat.le_of_ble_eq_true rfl) rfl rfl (by decide) (by decide) (k_X12_readPart hS1465.1 ta0 (by decide)) ?_
              rintro v1812 cn' K' N' I1808 R1809 L1810 ⟨rfl, rfl, rfl, rfl, g1811, p1813, w1814, -⟩
              have hS1815 := hS1465.tr g1811 (by decide +kernel) (by decide +kernel)
              have c1816 : I1808 a1 2 = v37 := (g1811.cell ta1 (by decide +kernel)).trans c1466
              have b1817 : 1 ≤ v1812.toInt ∧ v1812.toInt ≤ 240 := by omega
              clear p1813
              have hO1818 : FrO 14 a1 T I0 I1808 := hO1467.st g1811 (by decide +kernel)
              have ov1819 := w1814.over (by rw [c1795]; omega)
              obtain ⟨v1820, c1821⟩ : ∃ v, I1808 a0 9 = v := ⟨_, rfl⟩
              have b1822 := iv15_9 hS1815.1 ta0 c1821
              obtain ⟨v1823, c1824⟩ : ∃ v, I1808 a0 13 = v := ⟨_, rfl⟩
              obtain ⟨v1825, c1826⟩ : ∃ v, I1808 a0 14 = v := ⟨_, rfl⟩
              (try rw [c1821] at ov1819)
              (try rw [c1824] at ov1819)
              (try rw [c1826] at ov1819)
              (try rw [c1795] at ov1819)
              (try rw [c1798] at ov1819)
              (try rw [c1800] at ov1819)
              refine tr_istore dX12_readEvent_86 (by decide) (by decide) ?_
              refine tr_aload_n dX12_readEvent_88 rfl ?_
              refine q_getI dX12_readEvent_89 fl12_99 (kR15 hS1815.1 ta0) c1821 ?_
              refine q_iconst dX12_readEvent_92 (by decide) ?_
              intro v1827 h1828
              refine q_icmp_ne 97 dX12_readEvent_93 (by decide) (fun h1829 => ?_) (fun h1829 => ?_)
              · skip
                exfalso; omega
              · skip
                have eF := hF.eq
                have eP := hP.eq
                obtain ⟨v1830, c1831⟩ : ∃ v, I1808 a0 10 = v := ⟨_, rfl⟩
                have b1832 := iv15_10 hS1815.1 ta0 c1831
                obtain ⟨v1833, c1834⟩ : ∃ v, I1808 a0 11 = v := ⟨_, rfl⟩
                obtain ⟨y1835, c1836⟩ : ∃ v, L1810 a0 15 = v := ⟨_, rfl⟩
                obtain ⟨v1837, c1838⟩ : ∃ v, I1808 a0 12 = v := ⟨_, rfl⟩
                obtain ⟨v1839, c1840⟩ : ∃ v, I1808 a0 8 = v := ⟨_, rfl⟩
                have b1841 := iv15_8 hS1815.1 ta0 c1840
                exact tr_vret hZ dX12_readEvent_96 rfl (by decide) (by decide) ⟨rfl, rfl, rfl, rfl, rfl, hS1815, (fun dr hd => (Option.some.inj (d2.symm.trans hd)) ▸ hO1818), (Or.inr (⟨(by (try rw [w1378]); first | done | with_reducible assumption | omega), (by (try rw [w1378]); (try rw [c1821]); first | done | with_reducible assumption | omega), (by (try rw [w1378]); (try rw [c1824]); first | done | with_reducible assumption | omega), (by (try rw [w1378]); (try rw [c1826]); first | done | with_reducible assumption | omega), trivial⟩)), trivial⟩
            · skip
              exfalso; omega
        · skip
          obtain ⟨v1842, c1843⟩ : ∃ v, I1397 a0 9 = v := ⟨_, rfl⟩
          have b1844 := iv15_9 hS1405.1 ta0 c1843
          rw [c1843] at p1423
          obtain ⟨v1845, c1846⟩ : ∃ v, I1397 a0 13 = v := ⟨_, rfl⟩
          rw [c1846] at p1424
          obtain ⟨v1847, c1848⟩ : ∃ v, I1397 a0 14 = v := ⟨_, rfl⟩
          rw [c1848] at p1425
          replace hF := hF.pos (by omega)
          replace hP := hP.pos (by omega)
          refine tr_goto 42 dX12_readEvent_37 (by decide) ?_
          refine tr_istore_n dX12_readEvent_42 (by decide) (by decide) ?_
          refine tr_aload_n dX12_readEvent_43 rfl ?_
          refine q_iconst dX12_readEvent_44 (by decide) ?_
          intro v1849 h1850
          refine tr_aload_n dX12_readEvent_45 rfl ?_
          refine tr_getR dX12_readEvent_46 fl12_188 (kR15 hS1405.1 ta0) d2 ?_
          refine q_getI dX12_readEvent_49 fl12_192 (kR14 hS1405.1 ta1) ((hS1405.cell ta1 (by decide +kernel)).trans c30) ?_
          refine q_iconst dX12_readEvent_52 (by decide) ?_
          intro v1851 h1852
          refine q_isubE dX12_readEvent_53 (by intros; omega) ?_
          intro v1853 h1854
          refine q_callVi hE (M' := mX12_readWhole) (as := [_, _]) dX12_readEvent_54 lk12_161 inX12_readWhole seX12_readWhole myX12_readWhole (by decide) ⟨by decide, by decide⟩ rfl (kR15 hS1405.1 ta0) (Nat.le_of_ble_eq_true rfl) rfl rfl (by decide) (by decide) (k_X12_readWhole hS1405.1 ta0) ?_
          rintro v1859 cn' K' N' I1855 R1856 L1857 ⟨rfl, rfl, rfl, rfl, g1858, p1860, w1861, -⟩
          have hS1862 := hS1405.tr g1858 (by decide +kernel) (by decide +kernel)
          have c1863 : I1855 a1 2 = v37 := (g1858.cell ta1 (by decide +kernel)).trans c1406
          have b1864 : 0 ≤ v1859.toInt ∧ v1859.toInt ≤ 239 := by omega
          clear p1860
          have hO1865 : FrO 14 a1 T I0 I1855 := hO1407.st g1858 (by decide +kernel)
          have ov1866 := w1861.over (by rw [c1843]; omega)
          obtain ⟨v1867, c1868⟩ : ∃ v, I1855 a0 9 = v := ⟨_, rfl⟩
          have b1869 := iv15_9 hS1862.1 ta0 c1868
          obtain ⟨v1870, c1871⟩ : ∃ v, I1855 a0 13 = v := ⟨_, rfl⟩
          obtain ⟨v1872, c1873⟩ : ∃ v, I1855 a0 14 = v := ⟨_, rfl⟩
          (try rw [c1868] at ov1866)
          (try rw [c1871] at ov1866)
          (try rw [c1873] at ov1866)
          (try rw [c1843] at ov1866)
          (try rw [c1846] at ov1866)
          (try rw [c1848] at ov1866)
          refine tr_istore_n dX12_readEvent_57 (by decide) (by decide) ?_
          refine tr_iload_n dX12_readEvent_58 rfl ?_
          refine q_iconst dX12_readEvent_59 (by decide) ?_
          intro v1874 h1875
          refine q_icmp_ne 69 dX12_readEvent_60 (by decide) (fun h1876 => ?_) (fun h1876 => ?_)
          · skip
            refine tr_aload_n dX12_readEvent_69 rfl ?_
            refine tr_ldcwS dX12_readEvent_70 ld12_272 ?_
            refine tr_iload_n dX12_readEvent_73 rfl ?_
            refine q_iconst dX12_readEvent_74 (by decide) ?_
            intro v1877 h1878
            refine q_iaddE dX12_readEvent_75 (by intros; omega) ?_
            intro v1879 h1880
            refine tr_aload_n dX12_readEvent_76 rfl ?_
            refine tr_getR dX12_readEvent_77 fl12_188 (kR15 hS1862.1 ta0) d2 ?_
            refine q_getI dX12_readEvent_80 fl12_192 (kR14 hS1862.1 ta1) ((hS1862.cell ta1 (by decide +kernel)).trans c30) ?_
            refine q_callVi hE (M' := mX12_readPart) (as := [_, _, _]) dX12_readEvent_83 lk12_249 inX12_readPart seX12_readPart myX12_readPart (by decide) ⟨by decide, by decide⟩ rfl (kR15 hS1862.1 ta0) (Nat.le_of_ble_eq_true rfl) rfl rfl (by decide) (by decide) (k_X12_readPart hS1862.1 ta0 (by decide)) ?_
            rintro v1885 cn' K' N' I1881 R1882 L1883 ⟨rfl, rfl, rfl, rfl, g1884, p1886, w1887, -⟩
            have hS1888 := hS1862.tr g1884 (by decide +kernel) (by decide +kernel)
            have c1889 : I1881 a1 2 = v37 := (g1884.cell ta1 (by decide +kernel)).trans c1863
            have b1890 : 1 ≤ v1885.toInt ∧ v1885.toInt ≤ 240 := by omega
            clear p1886
            have hO1891 : FrO 14 a1 T I0 I1881 := hO1865.st g1884 (by decide +kernel)
            have ov1892 := w1887.over (by rw [c1868]; omega)
            obtain ⟨v1893, c1894⟩ : ∃ v, I1881 a0 9 = v := ⟨_, rfl⟩
            have b1895 := iv15_9 hS1888.1 ta0 c1894
            obtain ⟨v1896, c1897⟩ : ∃ v, I1881 a0 13 = v := ⟨_, rfl⟩
            obtain ⟨v1898, c1899⟩ : ∃ v, I1881 a0 14 = v := ⟨_, rfl⟩
            (try rw [c1894] at ov1892)
            (try rw [c1897] at ov1892)
            (try rw [c1899] at ov1892)
            (try rw [c1868] at ov1892)
            (try rw [c1871] at ov1892)
            (try rw [c1873] at ov1892)
            refine tr_istore dX12_readEvent_86 (by decide) (by decide) ?_
            refine tr_aload_n dX12_readEvent_88 rfl ?_
            refine q_getI dX12_readEvent_89 fl12_99 (kR15 hS1888.1 ta0) c1894 ?_
            refine q_iconst dX12_readEvent_92 (by decide) ?_
            intro v1900 h1901
            refine q_icmp_ne 97 dX12_readEvent_93 (by decide) (fun h1902 => ?_) (fun h1902 => ?_)
            · skip
              exfalso; omega
            · skip
              have eF := hF.eq
              have eP := hP.eq
              obtain ⟨v1903, c1904⟩ : ∃ v, I1881 a0 10 = v := ⟨_, rfl⟩
              have b1905 := iv15_10 hS1888.1 ta0 c1904
              obtain ⟨v1906, c1907⟩ : ∃ v, I1881 a0 11 = v := ⟨_, rfl⟩
              obtain ⟨y1908, c1909⟩ : ∃ v, L1883 a0 15 = v := ⟨_, rfl⟩
              obtain ⟨v1910, c1911⟩ : ∃ v, I1881 a0 12 = v := ⟨_, rfl⟩
              obtain ⟨v1912, c1913⟩ : ∃ v, I1881 a0 8 = v := ⟨_, rfl⟩
              have b1914 := iv15_8 hS1888.1 ta0 c1913
              exact tr_vret hZ dX12_readEvent_96 rfl (by decide) (by decide) ⟨rfl, rfl, rfl, rfl, rfl, hS1888, (fun dr hd => (Option.some.inj (d2.symm.trans hd)) ▸ hO1891), (Or.inr (⟨(by (try rw [w1378]); first | done | with_reducible assumption | omega), (by (try rw [w1378]); (try rw [c1894]); first | done | with_reducible assumption | omega), (by (try rw [w1378]); (try rw [c1897]); first | done | with_reducible assumption | omega), (by (try rw [w1378]); (try rw [c1899]); first | done | with_reducible assumption | omega), trivial⟩)), trivial⟩
          · skip
            exfalso; omega
        · skip
          obtain ⟨v1915, c1916⟩ : ∃ v, I1397 a0 9 = v := ⟨_, rfl⟩
          have b1917 := iv15_9 hS1405.1 ta0 c1916
          rw [c1916] at p1429
          obtain ⟨v1918, c1919⟩ : ∃ v, I1397 a0 13 = v := ⟨_, rfl⟩
          rw [c1919] at p1430
          obtain ⟨v1920, c1921⟩ : ∃ v, I1397 a0 14 = v := ⟨_, rfl⟩
          rw [c1921] at p1431
          replace hF := hF.neg (by omega)
          replace hP := hP.neg (by omega)
          replace hF := hF.pos (by omega)
          replace hP := hP.pos (by omega)
          refine tr_goto 42 dX12_readEvent_37 (by decide) ?_
          refine tr_istore_n dX12_readEvent_42 (by decide) (by decide) ?_
          refine tr_aload_n dX12_readEvent_43 rfl ?_
          refine q_iconst dX12_readEvent_44 (by decide) ?_
          intro v1922 h1923
          refine tr_aload_n dX12_readEvent_45 rfl ?_
          refine tr_getR dX12_readEvent_46 fl12_188 (kR15 hS1405.1 ta0) d2 ?_
          refine q_getI dX12_readEvent_49 fl12_192 (kR14 hS1405.1 ta1) ((hS1405.cell ta1 (by decide +kernel)).trans c30) ?_
          refine q_iconst dX12_readEvent_52 (by decide) ?_
          intro v1924 h1925
          refine q_isubE dX12_readEvent_53 (by intros; omega) ?_
          intro v1926 h1927
          refine q_callVi hE (M' := mX12_readWhole) (as := [_, _]) dX12_readEvent_54 lk12_161 inX12_readWhole seX12_readWhole myX12_readWhole (by decide) ⟨by decide, by decide⟩ rfl (kR15 hS1405.1 ta0) (Nat.le_of_ble_eq_true rfl) rfl rfl (by decide) (by decide) (k_X12_readWhole hS1405.1 ta0) ?_
          rintro v1932 cn' K' N' I1928 R1929 L1930 ⟨rfl, rfl, rfl, rfl, g1931, p1933, w1934, -⟩
          have hS1935 := hS1405.tr g1931 (by decide +kernel) (by decide +kernel)
          have c1936 : I1928 a1 2 = v37 := (g1931.cell ta1 (by decide +kernel)).trans c1406
          have b1937 : 0 ≤ v1932.toInt ∧ v1932.toInt ≤ 239 := by omega
          clear p1933
          have hO1938 : FrO 14 a1 T I0 I1928 := hO1407.st g1931 (by decide +kernel)
          have ov1939 := w1934.over (by rw [c1916]; omega)
          obtain ⟨v1940, c1941⟩ : ∃ v, I1928 a0 9 = v := ⟨_, rfl⟩
          have b1942 := iv15_9 hS1935.1 ta0 c1941
          obtain ⟨v1943, c1944⟩ : ∃ v, I1928 a0 13 = v := ⟨_, rfl⟩
          obtain ⟨v1945, c1946⟩ : ∃ v, I1928 a0 14 = v := ⟨_, rfl⟩
          (try rw [c1941] at ov1939)
          (try rw [c1944] at ov1939)
          (try rw [c1946] at ov1939)
          (try rw [c1916] at ov1939)
          (try rw [c1919] at ov1939)
          (try rw [c1921] at ov1939)
          refine tr_istore_n dX12_readEvent_57 (by decide) (by decide) ?_
          refine tr_iload_n dX12_readEvent_58 rfl ?_
          refine q_iconst dX12_readEvent_59 (by decide) ?_
          intro v1947 h1948
          refine q_icmp_ne 69 dX12_readEvent_60 (by decide) (fun h1949 => ?_) (fun h1949 => ?_)
          · skip
            refine tr_aload_n dX12_readEvent_69 rfl ?_
            refine tr_ldcwS dX12_readEvent_70 ld12_272 ?_
            refine tr_iload_n dX12_readEvent_73 rfl ?_
            refine q_iconst dX12_readEvent_74 (by decide) ?_
            intro v1950 h1951
            refine q_iaddE dX12_readEvent_75 (by intros; omega) ?_
            intro v1952 h1953
            refine tr_aload_n dX12_readEvent_76 rfl ?_
            refine tr_getR dX12_readEvent_77 fl12_188 (kR15 hS1935.1 ta0) d2 ?_
            refine q_getI dX12_readEvent_80 fl12_192 (kR14 hS1935.1 ta1) ((hS1935.cell ta1 (by decide +kernel)).trans c30) ?_
            refine q_callVi hE (M' := mX12_readPart) (as := [_, _, _]) dX12_readEvent_83 lk12_249 inX12_readPart seX12_readPart myX12_readPart (by decide) ⟨by decide, by decide⟩ rfl (kR15 hS1935.1 ta0) (Nat.le_of_ble_eq_true rfl) rfl rfl (by decide) (by decide) (k_X12_readPart hS1935.1 ta0 (by decide)) ?_
            rintro v1958 cn' K' N' I1954 R1955 L1956 ⟨rfl, rfl, rfl, rfl, g1957, p1959, w1960, -⟩
            have hS1961 := hS1935.tr g1957 (by decide +kernel) (by decide +kernel)
            have c1962 : I1954 a1 2 = v37 := (g1957.cell ta1 (by decide +kernel)).trans c1936
            have b1963 : 1 ≤ v1958.toInt ∧ v1958.toInt ≤ 240 := by omega
            clear p1959
            have hO1964 : FrO 14 a1 T I0 I1954 := hO1938.st g1957 (by decide +kernel)
            have ov1965 := w1960.over (by rw [c1941]; omega)
            obtain ⟨v1966, c1967⟩ : ∃ v, I1954 a0 9 = v := ⟨_, rfl⟩
            have b1968 := iv15_9 hS1961.1 ta0 c1967
            obtain ⟨v1969, c1970⟩ : ∃ v, I1954 a0 13 = v := ⟨_, rfl⟩
            obtain ⟨v1971, c1972⟩ : ∃ v, I1954 a0 14 = v := ⟨_, rfl⟩
            (try rw [c1967] at ov1965)
            (try rw [c1970] at ov1965)
            (try rw [c1972] at ov1965)
            (try rw [c1941] at ov1965)
            (try rw [c1944] at ov1965)
            (try rw [c1946] at ov1965)
            refine tr_istore dX12_readEvent_86 (by decide) (by decide) ?_
            refine tr_aload_n dX12_readEvent_88 rfl ?_
            refine q_getI dX12_readEvent_89 fl12_99 (kR15 hS1961.1 ta0) c1967 ?_
            refine q_iconst dX12_readEvent_92 (by decide) ?_
            intro v1973 h1974
            refine q_icmp_ne 97 dX12_readEvent_93 (by decide) (fun h1975 => ?_) (fun h1975 => ?_)
            · skip
              exfalso; omega
            · skip
              have eF := hF.eq
              have eP := hP.eq
              obtain ⟨v1976, c1977⟩ : ∃ v, I1954 a0 10 = v := ⟨_, rfl⟩
              have b1978 := iv15_10 hS1961.1 ta0 c1977
              obtain ⟨v1979, c1980⟩ : ∃ v, I1954 a0 11 = v := ⟨_, rfl⟩
              obtain ⟨y1981, c1982⟩ : ∃ v, L1956 a0 15 = v := ⟨_, rfl⟩
              obtain ⟨v1983, c1984⟩ : ∃ v, I1954 a0 12 = v := ⟨_, rfl⟩
              obtain ⟨v1985, c1986⟩ : ∃ v, I1954 a0 8 = v := ⟨_, rfl⟩
              have b1987 := iv15_8 hS1961.1 ta0 c1986
              exact tr_vret hZ dX12_readEvent_96 rfl (by decide) (by decide) ⟨rfl, rfl, rfl, rfl, rfl, hS1961, (fun dr hd => (Option.some.inj (d2.symm.trans hd)) ▸ hO1964), (Or.inr (⟨(by (try rw [w1378]); first | done | with_reducible assumption | omega), (by (try rw [w1378]); (try rw [c1967]); first | done | with_reducible assumption | omega), (by (try rw [w1378]); (try rw [c1970]); first | done | with_reducible assumption | omega), (by (try rw [w1378]); (try rw [c1972]); first | done | with_reducible assumption | omega), trivial⟩)), trivial⟩
          · skip
            exfalso; omega
      · skip
        exfalso; omega
    · skip
      obtain ⟨v1988, c1989⟩ : ∃ v, I1325 a0 9 = v := ⟨_, rfl⟩
      have b1990 := iv15_9 hS1333.1 ta0 c1989
      rw [c1989] at p1348
      obtain ⟨v1991, c1992⟩ : ∃ v, I1325 a0 13 = v := ⟨_, rfl⟩
      rw [c1992] at p1349
      obtain ⟨v1993, c1994⟩ : ∃ v, I1325 a0 14 = v := ⟨_, rfl⟩
      rw [c1994] at p1350
      have p1995 := p61
      unfold Q7M at p1995
      replace hF := hF.pos (by omega)
      replace hP := hP.pos (by omega)
      clear p1995
      refine tr_iload_n dX12_readEvent_13 rfl ?_
      refine q_iconst dX12_readEvent_14 (by decide) ?_
      intro v1996 h1997
      refine q_icmp_eq 23 dX12_readEvent_15 (by decide) (fun h1998 => ?_) (fun h1998 => ?_)
      · skip
        refine tr_aload_n dX12_readEvent_23 rfl ?_
        refine q_iconst dX12_readEvent_24 (by decide) ?_
        intro v1999 h2000
        refine tr_aload_n dX12_readEvent_25 rfl ?_
        refine tr_getR dX12_readEvent_26 fl12_188 (kR15 hS1333.1 ta0) d2 ?_
        refine q_getI dX12_readEvent_29 fl12_263 (kR14 hS1333.1 ta1) ((hS1333.cell ta1 (by decide +kernel)).trans c34) ?_
        refine q_iconst dX12_readEvent_32 (by decide) ?_
        intro v2001 h2002
        refine q_isubE dX12_readEvent_33 (by intros; omega) ?_
        intro v2003 h2004
        refine q_callVi hE (M' := mX12_readWhole) (as := [_, _]) dX12_readEvent_34 lk12_161 inX12_readWhole seX12_readWhole myX12_readWhole (by decide) ⟨by decide, by decide⟩ rfl (kR15 hS1333.1 ta0) (Nat.le_of_ble_eq_true rfl) rfl rfl (by decide) (by decide) (k_X12_readWhole hS1333.1 ta0) ?_
        rintro v2009 cn' K' N' I2005 R2006 L2007 ⟨rfl, rfl, rfl, rfl, g2008, p2010, w2011, -⟩
        have hS2012 := hS1333.tr g2008 (by decide +kernel) (by decide +kernel)
        have c2013 : I2005 a1 2 = v37 := (g2008.cell ta1 (by decide +kernel)).trans c1334
        have b2014 : 0 ≤ v2009.toInt ∧ v2009.toInt ≤ 3 := by omega
        clear p2010
        have hO2015 : FrO 14 a1 T I0 I2005 := hO1335.st g2008 (by decide +kernel)
        have ov2016 := w2011.over (by rw [c1989]; omega)
        obtain ⟨v2017, c2018⟩ : ∃ v, I2005 a0 9 = v := ⟨_, rfl⟩
        have b2019 := iv15_9 hS2012.1 ta0 c2018
        obtain ⟨v2020, c2021⟩ : ∃ v, I2005 a0 13 = v := ⟨_, rfl⟩
        obtain ⟨v2022, c2023⟩ : ∃ v, I2005 a0 14 = v := ⟨_, rfl⟩
        (try rw [c2018] at ov2016)
        (try rw [c2021] at ov2016)
        (try rw [c2023] at ov2016)
        (try rw [c1989] at ov2016)
        (try rw [c1992] at ov2016)
        (try rw [c1994] at ov2016)
        refine tr_goto 42 dX12_readEvent_37 (by decide) ?_
        refine tr_istore_n dX12_readEvent_42 (by decide) (by decide) ?_
        refine tr_aload_n dX12_readEvent_43 rfl ?_
        refine q_iconst dX12_readEvent_44 (by decide) ?_
        intro v2024 h2025
        refine tr_aload_n dX12_readEvent_45 rfl ?_
        refine tr_getR dX12_readEvent_46 fl12_188 (kR15 hS2012.1 ta0) d2 ?_
        refine q_getI dX12_readEvent_49 fl12_192 (kR14 hS2012.1 ta1) ((hS2012.cell ta1 (by decide +kernel)).trans c30) ?_
        refine q_iconst dX12_readEvent_52 (by decide) ?_
        intro v2026 h2027
        refine q_isubE dX12_readEvent_53 (by intros; omega) ?_
        intro v2028 h2029
        refine q_callVi hE (M' := mX12_readWhole) (as := [_, _]) dX12_readEvent_54 lk12_161 inX12_readWhole seX12_readWhole myX12_readWhole (by decide) ⟨by decide, by decide⟩ rfl (kR15 hS2012.1 ta0) (Nat.le_of_ble_eq_true rfl) rfl rfl (by decide) (by decide) (k_X12_readWhole hS2012.1 ta0) ?_
        rintro v2034 cn' K' N' I2030 R2031 L2032 ⟨rfl, rfl, rfl, rfl, g2033, p2035, w2036, -⟩
        have hS2037 := hS2012.tr g2033 (by decide +kernel) (by decide +kernel)
        have c2038 : I2030 a1 2 = v37 := (g2033.cell ta1 (by decide +kernel)).trans c2013
        have b2039 : 0 ≤ v2034.toInt ∧ v2034.toInt ≤ 239 := by omega
        clear p2035
        have hO2040 : FrO 14 a1 T I0 I2030 := hO2015.st g2033 (by decide +kernel)
        have ov2041 := w2036.over (by rw [c2018]; omega)
        obtain ⟨v2042, c2043⟩ : ∃ v, I2030 a0 9 = v := ⟨_, rfl⟩
        have b2044 := iv15_9 hS2037.1 ta0 c2043
        obtain ⟨v2045, c2046⟩ : ∃ v, I2030 a0 13 = v := ⟨_, rfl⟩
        obtain ⟨v2047, c2048⟩ : ∃ v, I2030 a0 14 = v := ⟨_, rfl⟩
        (try rw [c2043] at ov2041)
        (try rw [c2046] at ov2041)
        (try rw [c2048] at ov2041)
        (try rw [c2018] at ov2041)
        (try rw [c2021] at ov2041)
        (try rw [c2023] at ov2041)
        refine tr_istore_n dX12_readEvent_57 (by decide) (by decide) ?_
        refine tr_iload_n dX12_readEvent_58 rfl ?_
        refine q_iconst dX12_readEvent_59 (by decide) ?_
        intro v2049 h2050
        refine q_icmp_ne 69 dX12_readEvent_60 (by decide) (fun h2051 => ?_) (fun h2051 => ?_)
        · skip
          refine tr_aload_n dX12_readEvent_69 rfl ?_
          refine tr_ldcwS dX12_readEvent_70 ld12_272 ?_
          refine tr_iload_n dX12_readEvent_73 rfl ?_
          refine q_iconst dX12_readEvent_74 (by decide) ?_
          intro v2052 h2053
          refine q_iaddE dX12_readEvent_75 (by intros; omega) ?_
          intro v2054 h2055
          refine tr_aload_n dX12_readEvent_76 rfl ?_
          refine tr_getR dX12_readEvent_77 fl12_188 (kR15 hS2037.1 ta0) d2 ?_
          refine q_getI dX12_readEvent_80 fl12_192 (kR14 hS2037.1 ta1) ((hS2037.cell ta1 (by decide +kernel)).trans c30) ?_
          refine q_callVi hE (M' := mX12_readPart) (as := [_, _, _]) dX12_readEvent_83 lk12_249 inX12_readPart seX12_readPart myX12_readPart (by decide) ⟨by decide, by decide⟩ rfl (kR15 hS2037.1 ta0) (Nat.le_of_ble_eq_true rfl) rfl rfl (by decide) (by decide) (k_X12_readPart hS2037.1 ta0 (by decide)) ?_
          rintro v2060 cn' K' N' I2056 R2057 L2058 ⟨rfl, rfl, rfl, rfl, g2059, p2061, w2062, -⟩
          have hS2063 := hS2037.tr g2059 (by decide +kernel) (by decide +kernel)
          have c2064 : I2056 a1 2 = v37 := (g2059.cell ta1 (by decide +kernel)).trans c2038
          have b2065 : 1 ≤ v2060.toInt ∧ v2060.toInt ≤ 240 := by omega
          clear p2061
          have hO2066 : FrO 14 a1 T I0 I2056 := hO2040.st g2059 (by decide +kernel)
          have ov2067 := w2062.over (by rw [c2043]; omega)
          obtain ⟨v2068, c2069⟩ : ∃ v, I2056 a0 9 = v := ⟨_, rfl⟩
          have b2070 := iv15_9 hS2063.1 ta0 c2069
          obtain ⟨v2071, c2072⟩ : ∃ v, I2056 a0 13 = v := ⟨_, rfl⟩
          obtain ⟨v2073, c2074⟩ : ∃ v, I2056 a0 14 = v := ⟨_, rfl⟩
          (try rw [c2069] at ov2067)
          (try rw [c2072] at ov2067)
          (try rw [c2074] at ov2067)
          (try rw [c2043] at ov2067)
          (try rw [c2046] at ov2067)
          (try rw [c2048] at ov2067)
          refine tr_istore dX12_readEvent_86 (by decide) (by decide) ?_
          refine tr_aload_n dX12_readEvent_88 rfl ?_
          refine q_getI dX12_readEvent_89 fl12_99 (kR15 hS2063.1 ta0) c2069 ?_
          refine q_iconst dX12_readEvent_92 (by decide) ?_
          intro v2075 h2076
          refine q_icmp_ne 97 dX12_readEvent_93 (by decide) (fun h2077 => ?_) (fun h2077 => ?_)
          · skip
            exfalso; omega
          · skip
            have eF := hF.eq
            have eP := hP.eq
            obtain ⟨v2078, c2079⟩ : ∃ v, I2056 a0 10 = v := ⟨_, rfl⟩
            have b2080 := iv15_10 hS2063.1 ta0 c2079
            obtain ⟨v2081, c2082⟩ : ∃ v, I2056 a0 11 = v := ⟨_, rfl⟩
            obtain ⟨y2083, c2084⟩ : ∃ v, L2058 a0 15 = v := ⟨_, rfl⟩
            obtain ⟨v2085, c2086⟩ : ∃ v, I2056 a0 12 = v := ⟨_, rfl⟩
            obtain ⟨v2087, c2088⟩ : ∃ v, I2056 a0 8 = v := ⟨_, rfl⟩
            have b2089 := iv15_8 hS2063.1 ta0 c2088
            exact tr_vret hZ dX12_readEvent_96 rfl (by decide) (by decide) ⟨rfl, rfl, rfl, rfl, rfl, hS2063, (fun dr hd => (Option.some.inj (d2.symm.trans hd)) ▸ hO2066), (Or.inr (⟨(by first | done | with_reducible assumption | omega), (by (try rw [c2069]); first | done | with_reducible assumption | omega), (by (try rw [c2072]); first | done | with_reducible assumption | omega), (by (try rw [c2074]); first | done | with_reducible assumption | omega), trivial⟩)), trivial⟩
        · skip
          exfalso; omega
      · skip
        exfalso; omega
    · skip
      obtain ⟨v2090, c2091⟩ : ∃ v, I1325 a0 9 = v := ⟨_, rfl⟩
      have b2092 := iv15_9 hS1333.1 ta0 c2091
      rw [c2091] at p1353
      obtain ⟨v2093, c2094⟩ : ∃ v, I1325 a0 13 = v := ⟨_, rfl⟩
      rw [c2094] at p1354
      obtain ⟨v2095, c2096⟩ : ∃ v, I1325 a0 14 = v := ⟨_, rfl⟩
      rw [c2096] at p1355
      have p2097 := p61
      unfold Q7M at p2097
      replace hF := hF.neg (by omega)
      replace hP := hP.neg (by omega)
      replace hF := hF.pos (by omega)
      replace hP := hP.pos (by omega)
      clear p2097
      refine tr_iload_n dX12_readEvent_13 rfl ?_
      refine q_iconst dX12_readEvent_14 (by decide) ?_
      intro v2098 h2099
      refine q_icmp_eq 23 dX12_readEvent_15 (by decide) (fun h2100 => ?_) (fun h2100 => ?_)
      · skip
        refine tr_aload_n dX12_readEvent_23 rfl ?_
        refine q_iconst dX12_readEvent_24 (by decide) ?_
        intro v2101 h2102
        refine tr_aload_n dX12_readEvent_25 rfl ?_
        refine tr_getR dX12_readEvent_26 fl12_188 (kR15 hS1333.1 ta0) d2 ?_
        refine q_getI dX12_readEvent_29 fl12_263 (kR14 hS1333.1 ta1) ((hS1333.cell ta1 (by decide +kernel)).trans c34) ?_
        refine q_iconst dX12_readEvent_32 (by decide) ?_
        intro v2103 h2104
        refine q_isubE dX12_readEvent_33 (by intros; omega) ?_
        intro v2105 h2106
        refine q_callVi hE (M' := mX12_readWhole) (as := [_, _]) dX12_readEvent_34 lk12_161 inX12_readWhole seX12_readWhole myX12_readWhole (by decide) ⟨by decide, by decide⟩ rfl (kR15 hS1333.1 ta0) (Nat.le_of_ble_eq_true rfl) rfl rfl (by decide) (by decide) (k_X12_readWhole hS1333.1 ta0) ?_
        rintro v2111 cn' K' N' I2107 R2108 L2109 ⟨rfl, rfl, rfl, rfl, g2110, p2112, w2113, -⟩
        have hS2114 := hS1333.tr g2110 (by decide +kernel) (by decide +kernel)
        have c2115 : I2107 a1 2 = v37 := (g2110.cell ta1 (by decide +kernel)).trans c1334
        have b2116 : 0 ≤ v2111.toInt ∧ v2111.toInt ≤ 3 := by omega
        clear p2112
        have hO2117 : FrO 14 a1 T I0 I2107 := hO1335.st g2110 (by decide +kernel)
        have ov2118 := w2113.over (by rw [c2091]; omega)
        obtain ⟨v2119, c2120⟩ : ∃ v, I2107 a0 9 = v := ⟨_, rfl⟩
        have b2121 := iv15_9 hS2114.1 ta0 c2120
        obtain ⟨v2122, c2123⟩ : ∃ v, I2107 a0 13 = v := ⟨_, rfl⟩
        obtain ⟨v2124, c2125⟩ : ∃ v, I2107 a0 14 = v := ⟨_, rfl⟩
        (try rw [c2120] at ov2118)
        (try rw [c2123] at ov2118)
        (try rw [c2125] at ov2118)
        (try rw [c2091] at ov2118)
        (try rw [c2094] at ov2118)
        (try rw [c2096] at ov2118)
        refine tr_goto 42 dX12_readEvent_37 (by decide) ?_
        refine tr_istore_n dX12_readEvent_42 (by decide) (by decide) ?_
        refine tr_aload_n dX12_readEvent_43 rfl ?_
        refine q_iconst dX12_readEvent_44 (by decide) ?_
        intro v2126 h2127
        refine tr_aload_n dX12_readEvent_45 rfl ?_
        refine tr_getR dX12_readEvent_46 fl12_188 (kR15 hS2114.1 ta0) d2 ?_
        refine q_getI dX12_readEvent_49 fl12_192 (kR14 hS2114.1 ta1) ((hS2114.cell ta1 (by decide +kernel)).trans c30) ?_
        refine q_iconst dX12_readEvent_52 (by decide) ?_
        intro v2128 h2129
        refine q_isubE dX12_readEvent_53 (by intros; omega) ?_
        intro v2130 h2131
        refine q_callVi hE (M' := mX12_readWhole) (as := [_, _]) dX12_readEvent_54 lk12_161 inX12_readWhole seX12_readWhole myX12_readWhole (by decide) ⟨by decide, by decide⟩ rfl (kR15 hS2114.1 ta0) (Nat.le_of_ble_eq_true rfl) rfl rfl (by decide) (by decide) (k_X12_readWhole hS2114.1 ta0) ?_
        rintro v2136 cn' K' N' I2132 R2133 L2134 ⟨rfl, rfl, rfl, rfl, g2135, p2137, w2138, -⟩
        have hS2139 := hS2114.tr g2135 (by decide +kernel) (by decide +kernel)
        have c2140 : I2132 a1 2 = v37 := (g2135.cell ta1 (by decide +kernel)).trans c2115
        have b2141 : 0 ≤ v2136.toInt ∧ v2136.toInt ≤ 0 := by omega
        clear p2137
        have hO2142 : FrO 14 a1 T I0 I2132 := hO2117.st g2135 (by decide +kernel)
        have ov2143 := w2138.over (by rw [c2120]; omega)
        obtain ⟨v2144, c2145⟩ : ∃ v, I2132 a0 9 = v := ⟨_, rfl⟩
        have b2146 := iv15_9 hS2139.1 ta0 c2145
        obtain ⟨v2147, c2148⟩ : ∃ v, I2132 a0 13 = v := ⟨_, rfl⟩
        obtain ⟨v2149, c2150⟩ : ∃ v, I2132 a0 14 = v := ⟨_, rfl⟩
        (try rw [c2145] at ov2143)
        (try rw [c2148] at ov2143)
        (try rw [c2150] at ov2143)
        (try rw [c2120] at ov2143)
        (try rw [c2123] at ov2143)
        (try rw [c2125] at ov2143)
        refine tr_istore_n dX12_readEvent_57 (by decide) (by decide) ?_
        refine tr_iload_n dX12_readEvent_58 rfl ?_
        refine q_iconst dX12_readEvent_59 (by decide) ?_
        intro v2151 h2152
        refine q_icmp_ne 69 dX12_readEvent_60 (by decide) (fun h2153 => ?_) (fun h2153 => ?_)
        · skip
          refine tr_aload_n dX12_readEvent_69 rfl ?_
          refine tr_ldcwS dX12_readEvent_70 ld12_272 ?_
          refine tr_iload_n dX12_readEvent_73 rfl ?_
          refine q_iconst dX12_readEvent_74 (by decide) ?_
          intro v2154 h2155
          refine q_iaddE dX12_readEvent_75 (by intros; omega) ?_
          intro v2156 h2157
          refine tr_aload_n dX12_readEvent_76 rfl ?_
          refine tr_getR dX12_readEvent_77 fl12_188 (kR15 hS2139.1 ta0) d2 ?_
          refine q_getI dX12_readEvent_80 fl12_192 (kR14 hS2139.1 ta1) ((hS2139.cell ta1 (by decide +kernel)).trans c30) ?_
          refine q_callVi hE (M' := mX12_readPart) (as := [_, _, _]) dX12_readEvent_83 lk12_249 inX12_readPart seX12_readPart myX12_readPart (by decide) ⟨by decide, by decide⟩ rfl (kR15 hS2139.1 ta0) (Nat.le_of_ble_eq_true rfl) rfl rfl (by decide) (by decide) (k_X12_readPart hS2139.1 ta0 (by decide)) ?_
          rintro v2162 cn' K' N' I2158 R2159 L2160 ⟨rfl, rfl, rfl, rfl, g2161, p2163, w2164, -⟩
          have hS2165 := hS2139.tr g2161 (by decide +kernel) (by decide +kernel)
          have c2166 : I2158 a1 2 = v37 := (g2161.cell ta1 (by decide +kernel)).trans c2140
          have b2167 : 1 ≤ v2162.toInt ∧ v2162.toInt ≤ 1 := by omega
          clear p2163
          have hO2168 : FrO 14 a1 T I0 I2158 := hO2142.st g2161 (by decide +kernel)
          have ov2169 := w2164.over (by rw [c2145]; omega)
          obtain ⟨v2170, c2171⟩ : ∃ v, I2158 a0 9 = v := ⟨_, rfl⟩
          have b2172 := iv15_9 hS2165.1 ta0 c2171
          obtain ⟨v2173, c2174⟩ : ∃ v, I2158 a0 13 = v := ⟨_, rfl⟩
          obtain ⟨v2175, c2176⟩ : ∃ v, I2158 a0 14 = v := ⟨_, rfl⟩
          (try rw [c2171] at ov2169)
          (try rw [c2174] at ov2169)
          (try rw [c2176] at ov2169)
          (try rw [c2145] at ov2169)
          (try rw [c2148] at ov2169)
          (try rw [c2150] at ov2169)
          refine tr_istore dX12_readEvent_86 (by decide) (by decide) ?_
          refine tr_aload_n dX12_readEvent_88 rfl ?_
          refine q_getI dX12_readEvent_89 fl12_99 (kR15 hS2165.1 ta0) c2171 ?_
          refine q_iconst dX12_readEvent_92 (by decide) ?_
          intro v2177 h2178
          refine q_icmp_ne 97 dX12_readEvent_93 (by decide) (fun h2179 => ?_) (fun h2179 => ?_)
          · skip
            exfalso; omega
          · skip
            have eF := hF.eq
            have eP := hP.eq
            obtain ⟨v2180, c2181⟩ : ∃ v, I2158 a0 10 = v := ⟨_, rfl⟩
            have b2182 := iv15_10 hS2165.1 ta0 c2181
            obtain ⟨v2183, c2184⟩ : ∃ v, I2158 a0 11 = v := ⟨_, rfl⟩
            obtain ⟨y2185, c2186⟩ : ∃ v, L2160 a0 15 = v := ⟨_, rfl⟩
            obtain ⟨v2187, c2188⟩ : ∃ v, I2158 a0 12 = v := ⟨_, rfl⟩
            obtain ⟨v2189, c2190⟩ : ∃ v, I2158 a0 8 = v := ⟨_, rfl⟩
            have b2191 := iv15_8 hS2165.1 ta0 c2190
            exact tr_vret hZ dX12_readEvent_96 rfl (by decide) (by decide) ⟨rfl, rfl, rfl, rfl, rfl, hS2165, (fun dr hd => (Option.some.inj (d2.symm.trans hd)) ▸ hO2168), (Or.inr (⟨(by first | done | with_reducible assumption | omega), (by (try rw [c2171]); first | done | with_reducible assumption | omega), (by (try rw [c2174]); first | done | with_reducible assumption | omega), (by (try rw [c2176]); first | done | with_reducible assumption | omega), trivial⟩)), trivial⟩
        · skip
          exfalso; omega
      · skip
        exfalso; omega
  · skip
    refine tr_aload_n dX12_readEvent_0 rfl ?_
    refine tr_aload_n dX12_readEvent_1 rfl ?_
    refine tr_getR dX12_readEvent_2 fl12_188 (kR15 hS0.1 ta0) d2 ?_
    refine q_getI dX12_readEvent_5 fl12_265 (kR14 hS0.1 ta1) c38 ?_
    refine q_bipush dX12_readEvent_8 (by decide +kernel) ?_
    intro v2192 h2193
    refine q_callVv hE (M' := mX12_begins) (as := [_, _]) dX12_readEvent_10 lk12_268 inX12_begins seX12_begins myX12_begins (by decide) ⟨by decide, by decide⟩ rfl (kR15 hS0.1 ta0) (Nat.le_of_ble_eq_true rfl) rfl rfl (by decide) (by decide) (fk_X12_begins hS0.1 (gB) (gs) (gQ) ta0 (TxA.kp hT hS0 ta0 rfl rfl rfl (by decide +kernel) (by decide +kernel)) (by (try rw [c4]); first | done | with_reducible assumption | omega) (by (try rw [c4]); first | done | with_reducible assumption | omega) (by (try rw [c9]); first | done | with_reducible assumption | omega) (by (try rw [c13]); first | done | with_reducible assumption | omega) (by (try rw [c16]); first | done | assumption) (by (try rw [c19]); first | done | assumption) (by (try rw [c22]); first | done | assumption) (by (try rw [c26]); first | done | with_reducible assumption | omega) (fun q0 z0 => by obtain rfl := Option.some.inj ((d2).symm.trans z0); (try rw [c30]); first | done | with_reducible assumption | omega) (by first | done | with_reducible assumption | omega) ⟨_, d2⟩) ?_
    rintro cn' K' N' I2194 R2195 L2196 ⟨rfl, rfl, rfl, rfl, g2197, dj2200, -⟩
    have hM2201 : NmM I2194 R0 L0 a1 gQ := NmM.kpS hM0 g2197 hS0.1 ta1 (by decide +kernel) (by decide +kernel)
    have hS2202 := hS0.tr g2197 (by decide +kernel) (by decide +kernel)
    have c2203 : I2194 a1 2 = v37 := (g2197.cell ta1 (by decide +kernel)).trans c38
    have hO2204 : FrO 14 a1 T I0 I2194 := hO0.st g2197 (by decide +kernel)
    rcases dj2200 with ⟨p2205, p2206, p2207, p2208, p2209, p2210, p2211, p2212, p2213, p2214, gl2215, -⟩ | ⟨p2216, p2217, p2218, p2219, -⟩ | ⟨p2220, p2221, p2222, p2223, p2224, -⟩
    · skip
      have hL2225 := hL0.tr gl2215 (by decide +kernel)
      have hM2226 : NmM I2194 R0 L2196 a1 gQ := NmM.kpL hM2201 gl2215 hS2202.1 ta1 (by decide +kernel)
      obtain ⟨v2227, c2228⟩ : ∃ v, I2194 a0 13 = v := ⟨_, rfl⟩
      rw [c2228] at p2207
      rw [c65] at p2207
      obtain ⟨v2229, c2230⟩ : ∃ v, I2194 a0 9 = v := ⟨_, rfl⟩
      have b2231 := iv15_9 hS2202.1 ta0 c2230
      rw [c2230] at p2208
      rw [c2230] at p2209
      obtain ⟨v2232, c2233⟩ : ∃ v, I2194 a0 10 = v := ⟨_, rfl⟩
      have b2234 := iv15_10 hS2202.1 ta0 c2233
      rw [c2233] at p2210
      obtain ⟨v2235, c2236⟩ : ∃ v, I2194 a0 11 = v := ⟨_, rfl⟩
      rw [c2236] at p2211
      obtain ⟨y2237, c2238⟩ : ∃ v, L2196 a0 15 = v := ⟨_, rfl⟩
      rw [c2238] at p2212
      obtain ⟨v2239, c2240⟩ : ∃ v, I2194 a0 12 = v := ⟨_, rfl⟩
      rw [c2240] at p2213
      obtain ⟨v2241, c2242⟩ : ∃ v, I2194 a0 8 = v := ⟨_, rfl⟩
      have b2243 := iv15_8 hS2202.1 ta0 c2242
      rw [c2242] at p2214
      have p2244 := p61
      unfold Q7M at p2244
      replace hF := hF.neg (by omega)
      replace hP := hP.neg (by omega)
      replace hF := hF.neg (by omega)
      replace hP := hP.neg (by omega)
      clear p2244
      obtain ⟨w2245, w2246, w2247, w2248, w2249, w2250, w2251, w2252, w2253, w2254, w2255, w2256⟩ := lnl_e (B := gB) (Q := gQ) (s := gs) (by omega) (by omega)
      replace hF := hF.to w2245 (evF_c2 (B := gB) (Q := gQ) (k := srt gB gs) (s := (tkN gB gs)) (by omega))
      replace hP := hP.to w2246 (evP_c2 (B := gB) (Q := gQ) (k := srt gB gs) (s := (tkN gB gs)) (by omega))
      refine tr_iload_n dX12_readEvent_13 rfl ?_
      refine q_iconst dX12_readEvent_14 (by decide) ?_
      intro v2257 h2258
      refine q_icmp_eq 23 dX12_readEvent_15 (by decide) (fun h2259 => ?_) (fun h2259 => ?_)
      · skip
        exfalso; omega
      · skip
        refine tr_iload_n dX12_readEvent_18 rfl ?_
        refine q_iconst dX12_readEvent_19 (by decide) ?_
        intro v2260 h2261
        refine q_icmp_ne 40 dX12_readEvent_20 (by decide) (fun h2262 => ?_) (fun h2262 => ?_)
        · skip
          exfalso; omega
        · skip
          refine tr_aload_n dX12_readEvent_23 rfl ?_
          refine q_iconst dX12_readEvent_24 (by decide) ?_
          intro v2263 h2264
          refine tr_aload_n dX12_readEvent_25 rfl ?_
          refine tr_getR dX12_readEvent_26 fl12_188 (kR15 hS2202.1 ta0) d2 ?_
          refine q_getI dX12_readEvent_29 fl12_263 (kR14 hS2202.1 ta1) ((hS2202.cell ta1 (by decide +kernel)).trans c34) ?_
          refine q_iconst dX12_readEvent_32 (by decide) ?_
          intro v2265 h2266
          refine q_isubE dX12_readEvent_33 (by intros; omega) ?_
          intro v2267 h2268
          refine q_callVi hE (M' := mX12_readWhole) (as := [_, _]) dX12_readEvent_34 lk12_161 inX12_readWhole seX12_readWhole myX12_readWhole (by decide) ⟨by decide, by decide⟩ rfl (kR15 hS2202.1 ta0) (Nat.le_of_ble_eq_true rfl) rfl rfl (by decide) (by decide) (fk_X12_readWhole hS2202.1 (gB) ((tkN gB gs)) ta0 (TxA.kp hT hS2202 ta0 rfl rfl rfl (by decide +kernel) (by decide +kernel)) (by (try rw [c2230]); first | done | with_reducible assumption | omega) (by (try rw [c2230]); first | done | with_reducible assumption | omega) (by (try rw [c2233]); first | done | with_reducible assumption | omega) (by (try rw [c2236]); first | done | with_reducible assumption | omega) (by (try rw [c2238]); first | done | assumption) (by (try rw [c2240]); first | done | assumption) (by (try rw [c2242]); first | done | assumption) (by (try rw [((hS2202.cell ta0 (by decide +kernel)).trans c26)]); first | done | with_reducible assumption | omega)) ?_
          rintro v2274 cn' K' N' I2269 R2270 L2271 ⟨rfl, rfl, rfl, rfl, g2272, dj2275, -⟩
          have hM2276 : NmM I2269 R0 L2196 a1 gQ := NmM.kpS hM2226 g2272 hS2202.1 ta1 (by decide +kernel) (by decide +kernel)
          have hS2277 := hS2202.tr g2272 (by decide +kernel) (by decide +kernel)
          have c2278 : I2269 a1 2 = v37 := (g2272.cell ta1 (by decide +kernel)).trans c2203
          have hO2279 : FrO 14 a1 T I0 I2269 := hO2204.st g2272 (by decide +kernel)
          rcases dj2275 with ⟨p2280, p2281, p2282, p2283, p2284, p2285, p2286, p2287, p2288, p2289, p2290, p2291, gl2292, -⟩ | ⟨p2293, p2294, p2295, p2296, p2297, -⟩ | ⟨p2298, p2299, p2300, p2301, p2302, p2303, -⟩
          · skip
            have hL2304 := hL2225.tr gl2292 (by decide +kernel)
            have hM2305 : NmM I2269 R0 L2271 a1 gQ := NmM.kpL hM2276 gl2292 hS2277.1 ta1 (by decide +kernel)
            obtain ⟨v2306, c2307⟩ : ∃ v, I2269 a0 13 = v := ⟨_, rfl⟩
            rw [c2307] at p2284
            rw [c2228] at p2284
            obtain ⟨v2308, c2309⟩ : ∃ v, I2269 a0 9 = v := ⟨_, rfl⟩
            have b2310 := iv15_9 hS2277.1 ta0 c2309
            rw [c2309] at p2285
            rw [c2309] at p2286
            obtain ⟨v2311, c2312⟩ : ∃ v, I2269 a0 10 = v := ⟨_, rfl⟩
            have b2313 := iv15_10 hS2277.1 ta0 c2312
            rw [c2312] at p2287
            obtain ⟨v2314, c2315⟩ : ∃ v, I2269 a0 11 = v := ⟨_, rfl⟩
            rw [c2315] at p2288
            obtain ⟨y2316, c2317⟩ : ∃ v, L2271 a0 15 = v := ⟨_, rfl⟩
            rw [c2317] at p2289
            obtain ⟨v2318, c2319⟩ : ∃ v, I2269 a0 12 = v := ⟨_, rfl⟩
            rw [c2319] at p2290
            obtain ⟨v2320, c2321⟩ : ∃ v, I2269 a0 8 = v := ⟨_, rfl⟩
            have b2322 := iv15_8 hS2277.1 ta0 c2321
            rw [c2321] at p2291
            replace hF := hF.neg (by omega)
            replace hP := hP.neg (by omega)
            replace hF := hF.neg (by omega)
            replace hP := hP.neg (by omega)
            refine tr_goto 42 dX12_readEvent_37 (by decide) ?_
            refine tr_istore_n dX12_readEvent_42 (by decide) (by decide) ?_
            refine tr_aload_n dX12_readEvent_43 rfl ?_
            refine q_iconst dX12_readEvent_44 (by decide) ?_
            intro v2323 h2324
            refine tr_aload_n dX12_readEvent_45 rfl ?_
            refine tr_getR dX12_readEvent_46 fl12_188 (kR15 hS2277.1 ta0) d2 ?_
            refine q_getI dX12_readEvent_49 fl12_192 (kR14 hS2277.1 ta1) ((hS2277.cell ta1 (by decide +kernel)).trans c30) ?_
            refine q_iconst dX12_readEvent_52 (by decide) ?_
            intro v2325 h2326
            refine q_isubE dX12_readEvent_53 (by intros; omega) ?_
            intro v2327 h2328
            refine q_callVi hE (M' := mX12_readWhole) (as := [_, _]) dX12_readEvent_54 lk12_161 inX12_readWhole seX12_readWhole myX12_readWhole (by decide) ⟨by decide, by decide⟩ rfl (kR15 hS2277.1 ta0) (Nat.le_of_ble_eq_true rfl) rfl rfl (by decide) (by decide) (fk_X12_readWhole hS2277.1 (gB) ((tkN gB (tkN gB gs))) ta0 (TxA.kp hT hS2277 ta0 rfl rfl rfl (by decide +kernel) (by decide +kernel)) (by (try rw [c2309]); first | done | with_reducible assumption | omega) (by (try rw [c2309]); first | done | with_reducible assumption | omega) (by (try rw [c2312]); first | done | with_reducible assumption | omega) (by (try rw [c2315]); first | done | with_reducible assumption | omega) (by (try rw [c2317]); first | done | assumption) (by (try rw [c2319]); first | done | assumption) (by (try rw [c2321]); first | done | assumption) (by (try rw [((hS2277.cell ta0 (by decide +kernel)).trans c26)]); first | done | with_reducible assumption | omega)) ?_
            rintro v2334 cn' K' N' I2329 R2330 L2331 ⟨rfl, rfl, rfl, rfl, g2332, dj2335, -⟩
            have hM2336 : NmM I2329 R0 L2271 a1 gQ := NmM.kpS hM2305 g2332 hS2277.1 ta1 (by decide +kernel) (by decide +kernel)
            have hS2337 := hS2277.tr g2332 (by decide +kernel) (by decide +kernel)
            have c2338 : I2329 a1 2 = v37 := (g2332.cell ta1 (by decide +kernel)).trans c2278
            have hO2339 : FrO 14 a1 T I0 I2329 := hO2279.st g2332 (by decide +kernel)
            rcases dj2335 with ⟨p2340, p2341, p2342, p2343, p2344, p2345, p2346, p2347, p2348, p2349, p2350, p2351, gl2352, -⟩ | ⟨p2353, p2354, p2355, p2356, p2357, -⟩ | ⟨p2358, p2359, p2360, p2361, p2362, p2363, -⟩
            · skip
              have hL2364 := hL2304.tr gl2352 (by decide +kernel)
              have hM2365 : NmM I2329 R0 L2331 a1 gQ := NmM.kpL hM2336 gl2352 hS2337.1 ta1 (by decide +kernel)
              obtain ⟨v2366, c2367⟩ : ∃ v, I2329 a0 13 = v := ⟨_, rfl⟩
              rw [c2367] at p2344
              rw [c2307] at p2344
              obtain ⟨v2368, c2369⟩ : ∃ v, I2329 a0 9 = v := ⟨_, rfl⟩
              have b2370 := iv15_9 hS2337.1 ta0 c2369
              rw [c2369] at p2345
              rw [c2369] at p2346
              obtain ⟨v2371, c2372⟩ : ∃ v, I2329 a0 10 = v := ⟨_, rfl⟩
              have b2373 := iv15_10 hS2337.1 ta0 c2372
              rw [c2372] at p2347
              obtain ⟨v2374, c2375⟩ : ∃ v, I2329 a0 11 = v := ⟨_, rfl⟩
              rw [c2375] at p2348
              obtain ⟨y2376, c2377⟩ : ∃ v, L2331 a0 15 = v := ⟨_, rfl⟩
              rw [c2377] at p2349
              obtain ⟨v2378, c2379⟩ : ∃ v, I2329 a0 12 = v := ⟨_, rfl⟩
              rw [c2379] at p2350
              obtain ⟨v2380, c2381⟩ : ∃ v, I2329 a0 8 = v := ⟨_, rfl⟩
              have b2382 := iv15_8 hS2337.1 ta0 c2381
              rw [c2381] at p2351
              replace hF := hF.neg (by omega)
              replace hP := hP.neg (by omega)
              replace hF := hF.neg (by omega)
              replace hP := hP.neg (by omega)
              refine tr_istore_n dX12_readEvent_57 (by decide) (by decide) ?_
              refine tr_iload_n dX12_readEvent_58 rfl ?_
              refine q_iconst dX12_readEvent_59 (by decide) ?_
              intro v2383 h2384
              refine q_icmp_ne 69 dX12_readEvent_60 (by decide) (fun h2385 => ?_) (fun h2385 => ?_)
              · skip
                refine tr_aload_n dX12_readEvent_69 rfl ?_
                refine tr_ldcwS dX12_readEvent_70 ld12_272 ?_
                refine tr_iload_n dX12_readEvent_73 rfl ?_
                refine q_iconst dX12_readEvent_74 (by decide) ?_
                intro v2386 h2387
                refine q_iaddE dX12_readEvent_75 (by intros; omega) ?_
                intro v2388 h2389
                refine tr_aload_n dX12_readEvent_76 rfl ?_
                refine tr_getR dX12_readEvent_77 fl12_188 (kR15 hS2337.1 ta0) d2 ?_
                refine q_getI dX12_readEvent_80 fl12_192 (kR14 hS2337.1 ta1) ((hS2337.cell ta1 (by decide +kernel)).trans c30) ?_
                refine q_callVi hE (M' := mX12_readPart) (as := [_, _, _]) dX12_readEvent_83 lk12_249 inX12_readPart seX12_readPart myX12_readPart (by decide) ⟨by decide, by decide⟩ rfl (kR15 hS2337.1 ta0) (Nat.le_of_ble_eq_true rfl) rfl rfl (by decide) (by decide) (fk_X12_readPart hS2337.1 (gB) ((tkN gB (tkN gB (tkN gB gs)))) ta0 (by decide) (TxA.kp hT hS2337 ta0 rfl rfl rfl (by decide +kernel) (by decide +kernel)) (by (try rw [c2369]); first | done | with_reducible assumption | omega) (by (try rw [c2369]); first | done | with_reducible assumption | omega) (by (try rw [c2372]); first | done | with_reducible assumption | omega) (by (try rw [c2375]); first | done | with_reducible assumption | omega) (by (try rw [c2377]); first | done | assumption) (by (try rw [c2379]); first | done | assumption) (by (try rw [c2381]); first | done | assumption) (by (try rw [((hS2337.cell ta0 (by decide +kernel)).trans c26)]); first | done | with_reducible assumption | omega)) ?_
                rintro v2395 cn' K' N' I2390 R2391 L2392 ⟨rfl, rfl, rfl, rfl, g2393, dj2396, -⟩
                (try rw [pk_25] at dj2396)
                have hM2397 : NmM I2390 R0 L2331 a1 gQ := NmM.kpS hM2365 g2393 hS2337.1 ta1 (by decide +kernel) (by decide +kernel)
                have hS2398 := hS2337.tr g2393 (by decide +kernel) (by decide +kernel)
                have c2399 : I2390 a1 2 = v37 := (g2393.cell ta1 (by decide +kernel)).trans c2338
                have hO2400 : FrO 14 a1 T I0 I2390 := hO2339.st g2393 (by decide +kernel)
                rcases dj2396 with ⟨p2401, p2402, p2403, p2404, p2405, p2406, p2407, p2408, p2409, p2410, p2411, p2412, p2413, p2414, gl2415, -⟩ | ⟨p2416, p2417, p2418, p2419, p2420, -⟩ | ⟨p2421, p2422, p2423, p2424, p2425, p2426, p2427, -⟩ | ⟨p2428, p2429, p2430, p2431, p2432, p2433, p2434, p2435, -⟩
                · skip
                  have hL2436 := hL2364.tr gl2415 (by decide +kernel)
                  have hM2437 : NmM I2390 R0 L2392 a1 gQ := NmM.kpL hM2397 gl2415 hS2398.1 ta1 (by decide +kernel)
                  obtain ⟨v2438, c2439⟩ : ∃ v, I2390 a0 13 = v := ⟨_, rfl⟩
                  rw [c2439] at p2407
                  rw [c2367] at p2407
                  obtain ⟨v2440, c2441⟩ : ∃ v, I2390 a0 9 = v := ⟨_, rfl⟩
                  have b2442 := iv15_9 hS2398.1 ta0 c2441
                  rw [c2441] at p2408
                  rw [c2441] at p2409
                  obtain ⟨v2443, c2444⟩ : ∃ v, I2390 a0 10 = v := ⟨_, rfl⟩
                  have b2445 := iv15_10 hS2398.1 ta0 c2444
                  rw [c2444] at p2410
                  obtain ⟨v2446, c2447⟩ : ∃ v, I2390 a0 11 = v := ⟨_, rfl⟩
                  rw [c2447] at p2411
                  obtain ⟨y2448, c2449⟩ : ∃ v, L2392 a0 15 = v := ⟨_, rfl⟩
                  rw [c2449] at p2412
                  obtain ⟨v2450, c2451⟩ : ∃ v, I2390 a0 12 = v := ⟨_, rfl⟩
                  rw [c2451] at p2413
                  obtain ⟨v2452, c2453⟩ : ∃ v, I2390 a0 8 = v := ⟨_, rfl⟩
                  have b2454 := iv15_8 hS2398.1 ta0 c2453
                  rw [c2453] at p2414
                  replace hF := hF.neg (by omega)
                  replace hP := hP.neg (by omega)
                  replace hF := hF.neg (by omega)
                  replace hP := hP.neg (by omega)
                  replace hF := hF.neg (by omega)
                  replace hP := hP.neg (by omega)
                  refine tr_istore dX12_readEvent_86 (by decide) (by decide) ?_
                  refine tr_aload_n dX12_readEvent_88 rfl ?_
                  refine q_getI dX12_readEvent_89 fl12_99 (kR15 hS2398.1 ta0) c2441 ?_
                  refine q_iconst dX12_readEvent_92 (by decide) ?_
                  intro v2455 h2456
                  refine q_icmp_ne 97 dX12_readEvent_93 (by decide) (fun h2457 => ?_) (fun h2457 => ?_)
                  · skip
                    refine tr_aload_n dX12_readEvent_97 rfl ?_
                    refine tr_getR dX12_readEvent_98 fl12_188 (kR15 hS2398.1 ta0) d2 ?_
                    refine q_getI dX12_readEvent_101 fl12_265 (kR14 hS2398.1 ta1) c2399 ?_
                    refine tr_istore dX12_readEvent_104 (by decide) (by decide) ?_
                    refine tr_aload_n dX12_readEvent_106 rfl ?_
                    refine tr_getR dX12_readEvent_107 fl12_188 (kR15 hS2398.1 ta0) d2 ?_
                    obtain ⟨a2458, d2459, ta2458⟩ := rf14_11 hW0 ta1
                    refine tr_getR dX12_readEvent_110 fl12_274 (kR14 hS2398.1 ta1) d2459 ?_
                    refine tr_iload dX12_readEvent_113 rfl ?_
                    refine tr_iload_n dX12_readEvent_115 rfl ?_
                    refine q_iastX dX12_readEvent_116 (kR54 hS2398.1 ta2458) (ti_in (nR54 hS2398.1 ta2458) (by omega) (by omega)) hS2398 ta2458 (by rfl) (hS2398.1.putK (m := a1) ta1 d2459 (by rw [c2399]; exact Int.le_of_eq (ti_nat (by omega)).symm)) ?_
                    intro I2464 hS2465 e2466 f2467
                    have c2468 : I2464 a1 2 = v37 := (f2467 _ _ (fun q => by have z := ta1; rw [q.1, ta2458] at z; exact absurd z (by decide))).trans c2399
                    have c2469 : I2464 a0 13 = v2438 := (f2467 _ _ (fun q => by have z := ta0; rw [q.1, ta2458] at z; exact absurd z (by decide))).trans c2439
                    have c2470 : I2464 a0 9 = v2440 := (f2467 _ _ (fun q => by have z := ta0; rw [q.1, ta2458] at z; exact absurd z (by decide))).trans c2441
                    have c2471 : I2464 a0 10 = v2443 := (f2467 _ _ (fun q => by have z := ta0; rw [q.1, ta2458] at z; exact absurd z (by decide))).trans c2444
                    have c2472 : I2464 a0 11 = v2446 := (f2467 _ _ (fun q => by have z := ta0; rw [q.1, ta2458] at z; exact absurd z (by decide))).trans c2447
                    have c2473 : I2464 a0 12 = v2450 := (f2467 _ _ (fun q => by have z := ta0; rw [q.1, ta2458] at z; exact absurd z (by decide))).trans c2451
                    have c2474 : I2464 a0 8 = v2452 := (f2467 _ _ (fun q => by have z := ta0; rw [q.1, ta2458] at z; exact absurd z (by decide))).trans c2453
                    have hO2475 : FrO 14 a1 T I0 I2464 := hO2400.put f2467 ta2458 (Or.inl (by decide))
                    have hM2476 : NmM I2464 R0 L2392 a1 gQ := NmM.kp1 hM2437 f2467 ta2458 rfl rfl hS2398.1 ta1
                    refine tr_aload_n dX12_readEvent_117 rfl ?_
                    refine tr_getR dX12_readEvent_118 fl12_188 (kR15 hS2465.1 ta0) d2 ?_
                    obtain ⟨a2477, d2478, ta2477⟩ := rf14_12 hW0 ta1
                    refine tr_getR dX12_readEvent_121 fl12_277 (kR14 hS2465.1 ta1) d2478 ?_
                    refine tr_iload dX12_readEvent_124 rfl ?_
                    refine tr_iload_n dX12_readEvent_126 rfl ?_
                    refine q_iastX dX12_readEvent_127 (kR55 hS2465.1 ta2477) (ti_in (nR55 hS2465.1 ta2477) (by omega) (by omega)) hS2465 ta2477 (by rfl) (hS2465.1.putH (m := a1) ta1 d2478 (by rw [c2468]; exact Int.le_of_eq (ti_nat (by omega)).symm) (by omega)) ?_
                    intro I2483 hS2484 e2485 f2486
                    have c2487 : I2483 a1 2 = v37 := (f2486 _ _ (fun q => by have z := ta1; rw [q.1, ta2477] at z; exact absurd z (by decide))).trans c2468
                    have c2488 : I2483 a0 13 = v2438 := (f2486 _ _ (fun q => by have z := ta0; rw [q.1, ta2477] at z; exact absurd z (by decide))).trans c2469
                    have c2489 : I2483 a0 9 = v2440 := (f2486 _ _ (fun q => by have z := ta0; rw [q.1, ta2477] at z; exact absurd z (by decide))).trans c2470
                    have c2490 : I2483 a0 10 = v2443 := (f2486 _ _ (fun q => by have z := ta0; rw [q.1, ta2477] at z; exact absurd z (by decide))).trans c2471
                    have c2491 : I2483 a0 11 = v2446 := (f2486 _ _ (fun q => by have z := ta0; rw [q.1, ta2477] at z; exact absurd z (by decide))).trans c2472
                    have c2492 : I2483 a0 12 = v2450 := (f2486 _ _ (fun q => by have z := ta0; rw [q.1, ta2477] at z; exact absurd z (by decide))).trans c2473
                    have c2493 : I2483 a0 8 = v2452 := (f2486 _ _ (fun q => by have z := ta0; rw [q.1, ta2477] at z; exact absurd z (by decide))).trans c2474
                    have c2494 : I2483 a2458 v37.toNatClampNeg = x1 := (f2486 _ _ (fun q => by have z := ta2458; rw [q.1, ta2477] at z; exact absurd z (by decide))).trans e2466
                    have hO2495 : FrO 14 a1 T I0 I2483 := hO2475.put f2486 ta2477 (Or.inl (by decide))
                    have hM2496 : NmM I2483 R0 L2392 a1 gQ := NmM.kp1 hM2476 f2486 ta2477 rfl rfl hS2465.1 ta1
                    refine tr_aload_n dX12_readEvent_128 rfl ?_
                    refine tr_getR dX12_readEvent_129 fl12_188 (kR15 hS2484.1 ta0) d2 ?_
                    obtain ⟨a2497, d2498, ta2497⟩ := rf14_13 hW0 ta1
                    refine tr_getR dX12_readEvent_132 fl12_280 (kR14 hS2484.1 ta1) d2498 ?_
                    refine tr_iload dX12_readEvent_135 rfl ?_
                    refine tr_iload_n dX12_readEvent_137 rfl ?_
                    refine q_iast dX12_readEvent_138 (kR56 hS2484.1 ta2497) (ti_in (nR56 hS2484.1 ta2497) (by omega) (by omega)) hS2484 ta2497 (by show (0 : Int) ≤ v2334.toInt ∧ v2334.toInt ≤ (240 : Int); omega) rfl (by rfl) ?_
                    intro I2499 hS2500 e2502 f2501
                    have c2503 : I2499 a1 2 = v37 := (f2501 _ _ (fun q => by have z := ta1; rw [q.1, ta2497] at z; exact absurd z (by decide))).trans c2487
                    have c2504 : I2499 a0 13 = v2438 := (f2501 _ _ (fun q => by have z := ta0; rw [q.1, ta2497] at z; exact absurd z (by decide))).trans c2488
                    have c2505 : I2499 a0 9 = v2440 := (f2501 _ _ (fun q => by have z := ta0; rw [q.1, ta2497] at z; exact absurd z (by decide))).trans c2489
                    have c2506 : I2499 a0 10 = v2443 := (f2501 _ _ (fun q => by have z := ta0; rw [q.1, ta2497] at z; exact absurd z (by decide))).trans c2490
                    have c2507 : I2499 a0 11 = v2446 := (f2501 _ _ (fun q => by have z := ta0; rw [q.1, ta2497] at z; exact absurd z (by decide))).trans c2491
                    have c2508 : I2499 a0 12 = v2450 := (f2501 _ _ (fun q => by have z := ta0; rw [q.1, ta2497] at z; exact absurd z (by decide))).trans c2492
                    have c2509 : I2499 a0 8 = v2452 := (f2501 _ _ (fun q => by have z := ta0; rw [q.1, ta2497] at z; exact absurd z (by decide))).trans c2493
                    have c2510 : I2499 a2458 v37.toNatClampNeg = x1 := (f2501 _ _ (fun q => by have z := ta2458; rw [q.1, ta2497] at z; exact absurd z (by decide))).trans c2494
                    have c2511 : I2499 a2477 v37.toNatClampNeg = v2274 := (f2501 _ _ (fun q => by have z := ta2477; rw [q.1, ta2497] at z; exact absurd z (by decide))).trans e2485
                    have hO2512 : FrO 14 a1 T I0 I2499 := hO2495.put f2501 ta2497 (Or.inl (by decide))
                    have hM2513 : NmM I2499 R0 L2392 a1 gQ := NmM.kp1 hM2496 f2501 ta2497 rfl rfl hS2484.1 ta1
                    refine tr_aload_n dX12_readEvent_139 rfl ?_
                    refine tr_getR dX12_readEvent_140 fl12_188 (kR15 hS2500.1 ta0) d2 ?_
                    obtain ⟨a2514, d2515, ta2514⟩ := rf14_14 hW0 ta1
                    refine tr_getR dX12_readEvent_143 fl12_283 (kR14 hS2500.1 ta1) d2515 ?_
                    refine tr_iload dX12_readEvent_146 rfl ?_
                    refine tr_iload dX12_readEvent_148 rfl ?_
                    refine q_iast dX12_readEvent_150 (kR57 hS2500.1 ta2514) (ti_in (nR57 hS2500.1 ta2514) (by omega) (by omega)) hS2500 ta2514 (by show (0 : Int) ≤ v2395.toInt ∧ v2395.toInt ≤ (240 : Int); omega) rfl (by rfl) ?_
                    intro I2516 hS2517 e2519 f2518
                    have c2520 : I2516 a1 2 = v37 := (f2518 _ _ (fun q => by have z := ta1; rw [q.1, ta2514] at z; exact absurd z (by decide))).trans c2503
                    have c2521 : I2516 a0 13 = v2438 := (f2518 _ _ (fun q => by have z := ta0; rw [q.1, ta2514] at z; exact absurd z (by decide))).trans c2504
                    have c2522 : I2516 a0 9 = v2440 := (f2518 _ _ (fun q => by have z := ta0; rw [q.1, ta2514] at z; exact absurd z (by decide))).trans c2505
                    have c2523 : I2516 a0 10 = v2443 := (f2518 _ _ (fun q => by have z := ta0; rw [q.1, ta2514] at z; exact absurd z (by decide))).trans c2506
                    have c2524 : I2516 a0 11 = v2446 := (f2518 _ _ (fun q => by have z := ta0; rw [q.1, ta2514] at z; exact absurd z (by decide))).trans c2507
                    have c2525 : I2516 a0 12 = v2450 := (f2518 _ _ (fun q => by have z := ta0; rw [q.1, ta2514] at z; exact absurd z (by decide))).trans c2508
                    have c2526 : I2516 a0 8 = v2452 := (f2518 _ _ (fun q => by have z := ta0; rw [q.1, ta2514] at z; exact absurd z (by decide))).trans c2509
                    have c2527 : I2516 a2458 v37.toNatClampNeg = x1 := (f2518 _ _ (fun q => by have z := ta2458; rw [q.1, ta2514] at z; exact absurd z (by decide))).trans c2510
                    have c2528 : I2516 a2477 v37.toNatClampNeg = v2274 := (f2518 _ _ (fun q => by have z := ta2477; rw [q.1, ta2514] at z; exact absurd z (by decide))).trans c2511
                    have hO2529 : FrO 14 a1 T I0 I2516 := hO2512.put f2518 ta2514 (Or.inl (by decide))
                    have hM2530 : NmM I2516 R0 L2392 a1 gQ := NmM.kp1 hM2513 f2518 ta2514 rfl rfl hS2500.1 ta1
                    refine tr_aload_n dX12_readEvent_151 rfl ?_
                    refine tr_getR dX12_readEvent_152 fl12_188 (kR15 hS2517.1 ta0) d2 ?_
                    refine tr_dup dX12_readEvent_155 rfl ?_
                    refine q_getI dX12_readEvent_156 fl12_265 (kR14 hS2517.1 ta1) c2520 ?_
                    refine q_iconst dX12_readEvent_159 (by decide) ?_
                    intro v2531 h2532
                    refine q_iaddE dX12_readEvent_160 (by intros; omega) ?_
                    intro v2533 h2534
                    refine q_putX dX12_readEvent_161 fl12_265 (kR14 hS2517.1 ta1) (Or.inl rfl) hS2517 ta1 (by decide +kernel) (hS2517.1.putE (i := v37.toNatClampNeg) ta1 d2459 d2478 (by rw [c2520]; exact (ti_nat (by omega)).symm) (by rw [c2520]; omega) (by omega) (by rw [c2527, c2528]; omega)) ?_
                    intro I2535 hS2536 e2537 f2538
                    have c2539 : I2535 a0 13 = v2438 := (f2538 _ _ (fun q => absurd q.2 (by decide))).trans c2521
                    have c2540 : I2535 a0 9 = v2440 := (f2538 _ _ (fun q => absurd q.2 (by decide))).trans c2522
                    have c2541 : I2535 a0 10 = v2443 := (f2538 _ _ (fun q => absurd q.2 (by decide))).trans c2523
                    have c2542 : I2535 a0 11 = v2446 := (f2538 _ _ (fun q => absurd q.2 (by decide))).trans c2524
                    have c2543 : I2535 a0 12 = v2450 := (f2538 _ _ (fun q => absurd q.2 (by decide))).trans c2525
                    have c2544 : I2535 a0 8 = v2452 := (f2538 _ _ (fun q => absurd q.2 (by decide))).trans c2526
                    have c2545 : I2535 a2458 v37.toNatClampNeg = x1 := (f2538 _ _ (fun q => by have z := ta2458; rw [q.1, ta1] at z; exact absurd z (by decide))).trans c2527
                    have c2546 : I2535 a2477 v37.toNatClampNeg = v2274 := (f2538 _ _ (fun q => by have z := ta2477; rw [q.1, ta1] at z; exact absurd z (by decide))).trans c2528
                    have hO2547 : FrO 14 a1 T I0 I2535 := hO2529.put f2538 ta1 (Or.inr rfl)
                    have hM2548 : NmM I2535 R0 L2392 a1 gQ := NmM.kp1 hM2530 f2538 ta1 rfl rfl hS2517.1 ta1
                    have eF := hF.eq
                    have eP := hP.eq
                    have es2549 := evS_c2 (B := gB) (Q := gQ) (k := srt gB gs) (s := (tkN gB gs)) (by omega)
                    obtain ⟨v2550, c2551⟩ : ∃ v, I2535 a0 14 = v := ⟨_, rfl⟩
                    exact tr_vret hZ dX12_readEvent_164 rfl (by decide) (by decide) ⟨rfl, rfl, rfl, rfl, rfl, hS2536, (fun dr hd => (Option.some.inj (d2.symm.trans hd)) ▸ hO2547), (Or.inl ⟨(by (try rw [w2247]); (try rw [es2549]); first | done | with_reducible assumption | omega), (fun q0 z0 => by obtain rfl := Option.some.inj ((d2).symm.trans z0); (try rw [w2247]); (try rw [es2549]); (try rw [((hS2536.cell ta1 (by decide +kernel)).trans c30)]); first | done | with_reducible assumption | omega), (fun q0 z0 => by obtain rfl := Option.some.inj ((d2).symm.trans z0); (try rw [w2247]); (try rw [es2549]); (try rw [((hS2536.cell ta1 (by decide +kernel)).trans c34)]); first | done | with_reducible assumption | omega), (fun q0 z0 => by obtain rfl := Option.some.inj ((d2).symm.trans z0); (try rw [w2247]); (try rw [es2549]); (try rw [e2537]); first | done | with_reducible assumption | omega), (fun q0 z0 => by obtain rfl := Option.some.inj ((d2).symm.trans z0); (try rw [w2247]); (try rw [es2549]); (try rw [((hS2536.cell ta1 (by decide +kernel)).trans c42)]); first | done | with_reducible assumption | omega), (fun q0 z0 => by obtain rfl := Option.some.inj ((d2).symm.trans z0); (try rw [w2247]); (try rw [es2549]); (try rw [((hS2536.cell ta1 (by decide +kernel)).trans c46)]); first | done | with_reducible assumption | omega), (fun q0 z0 => by obtain rfl := Option.some.inj ((d2).symm.trans z0); (try rw [w2247]); (try rw [es2549]); (try rw [((hS2536.cell ta1 (by decide +kernel)).trans c50)]); first | done | with_reducible assumption | omega), (fun q0 z0 => by obtain rfl := Option.some.inj ((d2).symm.trans z0); (try rw [w2247]); (try rw [es2549]); (try rw [((hS2536.cell ta1 (by decide +kernel)).trans c54)]); first | done | with_reducible assumption | omega), (fun q0 z0 => by obtain rfl := Option.some.inj ((d2).symm.trans z0); (try rw [w2247]); (try rw [es2549]); (try rw [((hS2536.cell ta1 (by decide +kernel)).trans c58)]); first | done | with_reducible assumption | omega), (by (try rw [w2247]); (try rw [es2549]); (try rw [c2539]); (try rw [c65]); first | done | with_reducible assumption | omega), (by (try rw [w2247]); (try rw [es2549]); (try rw [c2540]); first | done | with_reducible assumption | omega), (by (try rw [w2247]); (try rw [es2549]); (try rw [c2540]); first | done | with_reducible assumption | omega), (by (try rw [w2247]); (try rw [es2549]); (try rw [c2541]); first | done | with_reducible assumption | omega), (by (try rw [w2247]); (try rw [es2549]); (try rw [c2542]); first | done | with_reducible assumption | omega), (by (try rw [w2247]); (try rw [es2549]); (try rw [c2449]); first | done | assumption), (by (try rw [w2247]); (try rw [es2549]); (try rw [c2543]); first | done | assumption), (by (try rw [w2247]); (try rw [es2549]); (try rw [c2544]); first | done | assumption), hL2436, (fun b hb => (Option.some.inj (d2.symm.trans hb)) ▸ NmM.ln (NmM.bd (k := srt gB gs) hM2548 (by omega) (by omega)) rfl), trivial⟩), trivial⟩
                  · skip
                    exfalso; omega
                · skip
                  obtain ⟨v2552, c2553⟩ : ∃ v, I2390 a0 9 = v := ⟨_, rfl⟩
                  have b2554 := iv15_9 hS2398.1 ta0 c2553
                  rw [c2553] at p2418
                  obtain ⟨v2555, c2556⟩ : ∃ v, I2390 a0 13 = v := ⟨_, rfl⟩
                  rw [c2556] at p2419
                  obtain ⟨v2557, c2558⟩ : ∃ v, I2390 a0 14 = v := ⟨_, rfl⟩
                  rw [c2558] at p2420
                  replace hF := hF.pos (by omega)
                  replace hP := hP.pos (by omega)
                  refine tr_istore dX12_readEvent_86 (by decide) (by decide) ?_
                  refine tr_aload_n dX12_readEvent_88 rfl ?_
                  refine q_getI dX12_readEvent_89 fl12_99 (kR15 hS2398.1 ta0) c2553 ?_
                  refine q_iconst dX12_readEvent_92 (by decide) ?_
                  intro v2559 h2560
                  refine q_icmp_ne 97 dX12_readEvent_93 (by decide) (fun h2561 => ?_) (fun h2561 => ?_)
                  · skip
                    exfalso; omega
                  · skip
                    have eF := hF.eq
                    have eP := hP.eq
                    obtain ⟨v2562, c2563⟩ : ∃ v, I2390 a0 10 = v := ⟨_, rfl⟩
                    have b2564 := iv15_10 hS2398.1 ta0 c2563
                    obtain ⟨v2565, c2566⟩ : ∃ v, I2390 a0 11 = v := ⟨_, rfl⟩
                    obtain ⟨y2567, c2568⟩ : ∃ v, L2392 a0 15 = v := ⟨_, rfl⟩
                    obtain ⟨v2569, c2570⟩ : ∃ v, I2390 a0 12 = v := ⟨_, rfl⟩
                    obtain ⟨v2571, c2572⟩ : ∃ v, I2390 a0 8 = v := ⟨_, rfl⟩
                    have b2573 := iv15_8 hS2398.1 ta0 c2572
                    exact tr_vret hZ dX12_readEvent_96 rfl (by decide) (by decide) ⟨rfl, rfl, rfl, rfl, rfl, hS2398, (fun dr hd => (Option.some.inj (d2.symm.trans hd)) ▸ hO2400), (Or.inr (⟨(by (try rw [w2247]); first | done | with_reducible assumption | omega), (by (try rw [w2247]); (try rw [c2553]); first | done | with_reducible assumption | omega), (by (try rw [w2247]); (try rw [c2556]); first | done | with_reducible assumption | omega), (by (try rw [w2247]); (try rw [c2558]); first | done | with_reducible assumption | omega), trivial⟩)), trivial⟩
                · skip
                  obtain ⟨v2574, c2575⟩ : ∃ v, I2390 a0 9 = v := ⟨_, rfl⟩
                  have b2576 := iv15_9 hS2398.1 ta0 c2575
                  rw [c2575] at p2425
                  obtain ⟨v2577, c2578⟩ : ∃ v, I2390 a0 13 = v := ⟨_, rfl⟩
                  rw [c2578] at p2426
                  obtain ⟨v2579, c2580⟩ : ∃ v, I2390 a0 14 = v := ⟨_, rfl⟩
                  rw [c2580] at p2427
                  replace hF := hF.neg (by omega)
                  replace hP := hP.neg (by omega)
                  replace hF := hF.pos (by omega)
                  replace hP := hP.pos (by omega)
                  refine tr_istore dX12_readEvent_86 (by decide) (by decide) ?_
                  refine tr_aload_n dX12_readEvent_88 rfl ?_
                  refine q_getI dX12_readEvent_89 fl12_99 (kR15 hS2398.1 ta0) c2575 ?_
                  refine q_iconst dX12_readEvent_92 (by decide) ?_
                  intro v2581 h2582
                  refine q_icmp_ne 97 dX12_readEvent_93 (by decide) (fun h2583 => ?_) (fun h2583 => ?_)
                  · skip
                    exfalso; omega
                  · skip
                    have eF := hF.eq
                    have eP := hP.eq
                    obtain ⟨v2584, c2585⟩ : ∃ v, I2390 a0 10 = v := ⟨_, rfl⟩
                    have b2586 := iv15_10 hS2398.1 ta0 c2585
                    obtain ⟨v2587, c2588⟩ : ∃ v, I2390 a0 11 = v := ⟨_, rfl⟩
                    obtain ⟨y2589, c2590⟩ : ∃ v, L2392 a0 15 = v := ⟨_, rfl⟩
                    obtain ⟨v2591, c2592⟩ : ∃ v, I2390 a0 12 = v := ⟨_, rfl⟩
                    obtain ⟨v2593, c2594⟩ : ∃ v, I2390 a0 8 = v := ⟨_, rfl⟩
                    have b2595 := iv15_8 hS2398.1 ta0 c2594
                    exact tr_vret hZ dX12_readEvent_96 rfl (by decide) (by decide) ⟨rfl, rfl, rfl, rfl, rfl, hS2398, (fun dr hd => (Option.some.inj (d2.symm.trans hd)) ▸ hO2400), (Or.inr (⟨(by (try rw [w2247]); first | done | with_reducible assumption | omega), (by (try rw [w2247]); (try rw [c2575]); first | done | with_reducible assumption | omega), (by (try rw [w2247]); (try rw [c2578]); first | done | with_reducible assumption | omega), (by (try rw [w2247]); (try rw [c2580]); first | done | with_reducible assumption | omega), trivial⟩)), trivial⟩
                · skip
                  obtain ⟨v2596, c2597⟩ : ∃ v, I2390 a0 9 = v := ⟨_, rfl⟩
                  have b2598 := iv15_9 hS2398.1 ta0 c2597
                  rw [c2597] at p2433
                  obtain ⟨v2599, c2600⟩ : ∃ v, I2390 a0 13 = v := ⟨_, rfl⟩
                  rw [c2600] at p2434
                  obtain ⟨v2601, c2602⟩ : ∃ v, I2390 a0 14 = v := ⟨_, rfl⟩
                  rw [c2602] at p2435
                  replace hF := hF.neg (by omega)
                  replace hP := hP.neg (by omega)
                  replace hF := hF.neg (by omega)
                  replace hP := hP.neg (by omega)
                  replace hF := hF.pos (by omega)
                  replace hP := hP.pos (by omega)
                  refine tr_istore dX12_readEvent_86 (by decide) (by decide) ?_
                  refine tr_aload_n dX12_readEvent_88 rfl ?_
                  refine q_getI dX12_readEvent_89 fl12_99 (kR15 hS2398.1 ta0) c2597 ?_
                  refine q_iconst dX12_readEvent_92 (by decide) ?_
                  intro v2603 h2604
                  refine q_icmp_ne 97 dX12_readEvent_93 (by decide) (fun h2605 => ?_) (fun h2605 => ?_)
                  · skip
                    exfalso; omega
                  · skip
                    have eF := hF.eq
                    have eP := hP.eq
                    obtain ⟨v2606, c2607⟩ : ∃ v, I2390 a0 10 = v := ⟨_, rfl⟩
                    have b2608 := iv15_10 hS2398.1 ta0 c2607
                    obtain ⟨v2609, c2610⟩ : ∃ v, I2390 a0 11 = v := ⟨_, rfl⟩
                    obtain ⟨y2611, c2612⟩ : ∃ v, L2392 a0 15 = v := ⟨_, rfl⟩
                    obtain ⟨v2613, c2614⟩ : ∃ v, I2390 a0 12 = v := ⟨_, rfl⟩
                    obtain ⟨v2615, c2616⟩ : ∃ v, I2390 a0 8 = v := ⟨_, rfl⟩
                    have b2617 := iv15_8 hS2398.1 ta0 c2616
                    exact tr_vret hZ dX12_readEvent_96 rfl (by decide) (by decide) ⟨rfl, rfl, rfl, rfl, rfl, hS2398, (fun dr hd => (Option.some.inj (d2.symm.trans hd)) ▸ hO2400), (Or.inr (⟨(by (try rw [w2247]); first | done | with_reducible assumption | omega), (by (try rw [w2247]); (try rw [c2597]); first | done | with_reducible assumption | omega), (by (try rw [w2247]); (try rw [c2600]); first | done | with_reducible assumption | omega), (by (try rw [w2247]); (try rw [c2602]); first | done | with_reducible assumption | omega), trivial⟩)), trivial⟩
              · skip
                exfalso; omega
            · skip
              obtain ⟨v2618, c2619⟩ : ∃ v, I2329 a0 9 = v := ⟨_, rfl⟩
              have b2620 := iv15_9 hS2337.1 ta0 c2619
              rw [c2619] at p2355
              obtain ⟨v2621, c2622⟩ : ∃ v, I2329 a0 13 = v := ⟨_, rfl⟩
              rw [c2622] at p2356
              obtain ⟨v2623, c2624⟩ : ∃ v, I2329 a0 14 = v := ⟨_, rfl⟩
              rw [c2624] at p2357
              replace hF := hF.pos (by omega)
              replace hP := hP.pos (by omega)
              refine tr_istore_n dX12_readEvent_57 (by decide) (by decide) ?_
              refine tr_iload_n dX12_readEvent_58 rfl ?_
              refine q_iconst dX12_readEvent_59 (by decide) ?_
              intro v2625 h2626
              refine q_icmp_ne 69 dX12_readEvent_60 (by decide) (fun h2627 => ?_) (fun h2627 => ?_)
              · skip
                refine tr_aload_n dX12_readEvent_69 rfl ?_
                refine tr_ldcwS dX12_readEvent_70 ld12_272 ?_
                refine tr_iload_n dX12_readEvent_73 rfl ?_
                refine q_iconst dX12_readEvent_74 (by decide) ?_
                intro v2628 h2629
                refine q_iaddE dX12_readEvent_75 (by intros; omega) ?_
                intro v2630 h2631
                refine tr_aload_n dX12_readEvent_76 rfl ?_
                refine tr_getR dX12_readEvent_77 fl12_188 (kR15 hS2337.1 ta0) d2 ?_
                refine q_getI dX12_readEvent_80 fl12_192 (kR14 hS2337.1 ta1) ((hS2337.cell ta1 (by decide +kernel)).trans c30) ?_
                refine q_callVi hE (M' := mX12_readPart) (as := [_, _, _]) dX12_readEvent_83 lk12_249 inX12_readPart seX12_readPart myX12_readPart (by decide) ⟨by decide, by decide⟩ rfl (kR15 hS2337.1 ta0) (Nat.le_of_ble_eq_true rfl) rfl rfl (by decide) (by decide) (k_X12_readPart hS2337.1 ta0 (by decide)) ?_
                rintro v2636 cn' K' N' I2632 R2633 L2634 ⟨rfl, rfl, rfl, rfl, g2635, p2637, w2638, -⟩
                have hS2639 := hS2337.tr g2635 (by decide +kernel) (by decide +kernel)
                have c2640 : I2632 a1 2 = v37 := (g2635.cell ta1 (by decide +kernel)).trans c2338
                have b2641 : 1 ≤ v2636.toInt ∧ v2636.toInt ≤ 240 := by omega
                clear p2637
                have hO2642 : FrO 14 a1 T I0 I2632 := hO2339.st g2635 (by decide +kernel)
                have ov2643 := w2638.over (by rw [c2619]; omega)
                obtain ⟨v2644, c2645⟩ : ∃ v, I2632 a0 9 = v := ⟨_, rfl⟩
                have b2646 := iv15_9 hS2639.1 ta0 c2645
                obtain ⟨v2647, c2648⟩ : ∃ v, I2632 a0 13 = v := ⟨_, rfl⟩
                obtain ⟨v2649, c2650⟩ : ∃ v, I2632 a0 14 = v := ⟨_, rfl⟩
                (try rw [c2645] at ov2643)
                (try rw [c2648] at ov2643)
                (try rw [c2650] at ov2643)
                (try rw [c2619] at ov2643)
                (try rw [c2622] at ov2643)
                (try rw [c2624] at ov2643)
                refine tr_istore dX12_readEvent_86 (by decide) (by decide) ?_
                refine tr_aload_n dX12_readEvent_88 rfl ?_
                refine q_getI dX12_readEvent_89 fl12_99 (kR15 hS2639.1 ta0) c2645 ?_
                refine q_iconst dX12_readEvent_92 (by decide) ?_
                intro v2651 h2652
                refine q_icmp_ne 97 dX12_readEvent_93 (by decide) (fun h2653 => ?_) (fun h2653 => ?_)
                · skip
                  exfalso; omega
                · skip
                  have eF := hF.eq
                  have eP := hP.eq
                  obtain ⟨v2654, c2655⟩ : ∃ v, I2632 a0 10 = v := ⟨_, rfl⟩
                  have b2656 := iv15_10 hS2639.1 ta0 c2655
                  obtain ⟨v2657, c2658⟩ : ∃ v, I2632 a0 11 = v := ⟨_, rfl⟩
                  obtain ⟨y2659, c2660⟩ : ∃ v, L2634 a0 15 = v := ⟨_, rfl⟩
                  obtain ⟨v2661, c2662⟩ : ∃ v, I2632 a0 12 = v := ⟨_, rfl⟩
                  obtain ⟨v2663, c2664⟩ : ∃ v, I2632 a0 8 = v := ⟨_, rfl⟩
                  have b2665 := iv15_8 hS2639.1 ta0 c2664
                  exact tr_vret hZ dX12_readEvent_96 rfl (by decide) (by decide) ⟨rfl, rfl, rfl, rfl, rfl, hS2639, (fun dr hd => (Option.some.inj (d2.symm.trans hd)) ▸ hO2642), (Or.inr (⟨(by (try rw [w2247]); first | done | with_reducible assumption | omega), (by (try rw [w2247]); (try rw [c2645]); first | done | with_reducible assumption | omega), (by (try rw [w2247]); (try rw [c2648]); first | done | with_reducible assumption | omega), (by (try rw [w2247]); (try rw [c2650]); first | done | with_reducible assumption | omega), trivial⟩)), trivial⟩
              · skip
                exfalso; omega
            · skip
              obtain ⟨v2666, c2667⟩ : ∃ v, I2329 a0 9 = v := ⟨_, rfl⟩
              have b2668 := iv15_9 hS2337.1 ta0 c2667
              rw [c2667] at p2361
              obtain ⟨v2669, c2670⟩ : ∃ v, I2329 a0 13 = v := ⟨_, rfl⟩
              rw [c2670] at p2362
              obtain ⟨v2671, c2672⟩ : ∃ v, I2329 a0 14 = v := ⟨_, rfl⟩
              rw [c2672] at p2363
              replace hF := hF.neg (by omega)
              replace hP := hP.neg (by omega)
              replace hF := hF.pos (by omega)
              replace hP := hP.pos (by omega)
              refine tr_istore_n dX12_readEvent_57 (by decide) (by decide) ?_
              refine tr_iload_n dX12_readEvent_58 rfl ?_
              refine q_iconst dX12_readEvent_59 (by decide) ?_
              intro v2673 h2674
              refine q_icmp_ne 69 dX12_readEvent_60 (by decide) (fun h2675 => ?_) (fun h2675 => ?_)
              · skip
                refine tr_aload_n dX12_readEvent_69 rfl ?_
                refine tr_ldcwS dX12_readEvent_70 ld12_272 ?_
                refine tr_iload_n dX12_readEvent_73 rfl ?_
                refine q_iconst dX12_readEvent_74 (by decide) ?_
                intro v2676 h2677
                refine q_iaddE dX12_readEvent_75 (by intros; omega) ?_
                intro v2678 h2679
                refine tr_aload_n dX12_readEvent_76 rfl ?_
                refine tr_getR dX12_readEvent_77 fl12_188 (kR15 hS2337.1 ta0) d2 ?_
                refine q_getI dX12_readEvent_80 fl12_192 (kR14 hS2337.1 ta1) ((hS2337.cell ta1 (by decide +kernel)).trans c30) ?_
                refine q_callVi hE (M' := mX12_readPart) (as := [_, _, _]) dX12_readEvent_83 lk12_249 inX12_readPart seX12_readPart myX12_readPart (by decide) ⟨by decide, by decide⟩ rfl (kR15 hS2337.1 ta0) (Nat.le_of_ble_eq_true rfl) rfl rfl (by decide) (by decide) (k_X12_readPart hS2337.1 ta0 (by decide)) ?_
                rintro v2684 cn' K' N' I2680 R2681 L2682 ⟨rfl, rfl, rfl, rfl, g2683, p2685, w2686, -⟩
                have hS2687 := hS2337.tr g2683 (by decide +kernel) (by decide +kernel)
                have c2688 : I2680 a1 2 = v37 := (g2683.cell ta1 (by decide +kernel)).trans c2338
                have b2689 : 1 ≤ v2684.toInt ∧ v2684.toInt ≤ 240 := by omega
                clear p2685
                have hO2690 : FrO 14 a1 T I0 I2680 := hO2339.st g2683 (by decide +kernel)
                have ov2691 := w2686.over (by rw [c2667]; omega)
                obtain ⟨v2692, c2693⟩ : ∃ v, I2680 a0 9 = v := ⟨_, rfl⟩
                have b2694 := iv15_9 hS2687.1 ta0 c2693
                obtain ⟨v2695, c2696⟩ : ∃ v, I2680 a0 13 = v := ⟨_, rfl⟩
                obtain ⟨v2697, c2698⟩ : ∃ v, I2680 a0 14 = v := ⟨_, rfl⟩
                (try rw [c2693] at ov2691)
                (try rw [c2696] at ov2691)
                (try rw [c2698] at ov2691)
                (try rw [c2667] at ov2691)
                (try rw [c2670] at ov2691)
                (try rw [c2672] at ov2691)
                refine tr_istore dX12_readEvent_86 (by decide) (by decide) ?_
                refine tr_aload_n dX12_readEvent_88 rfl ?_
                refine q_getI dX12_readEvent_89 fl12_99 (kR15 hS2687.1 ta0) c2693 ?_
                refine q_iconst dX12_readEvent_92 (by decide) ?_
                intro v2699 h2700
                refine q_icmp_ne 97 dX12_readEvent_93 (by decide) (fun h2701 => ?_) (fun h2701 => ?_)
                · skip
                  exfalso; omega
                · skip
                  have eF := hF.eq
                  have eP := hP.eq
                  obtain ⟨v2702, c2703⟩ : ∃ v, I2680 a0 10 = v := ⟨_, rfl⟩
                  have b2704 := iv15_10 hS2687.1 ta0 c2703
                  obtain ⟨v2705, c2706⟩ : ∃ v, I2680 a0 11 = v := ⟨_, rfl⟩
                  obtain ⟨y2707, c2708⟩ : ∃ v, L2682 a0 15 = v := ⟨_, rfl⟩
                  obtain ⟨v2709, c2710⟩ : ∃ v, I2680 a0 12 = v := ⟨_, rfl⟩
                  obtain ⟨v2711, c2712⟩ : ∃ v, I2680 a0 8 = v := ⟨_, rfl⟩
                  have b2713 := iv15_8 hS2687.1 ta0 c2712
                  exact tr_vret hZ dX12_readEvent_96 rfl (by decide) (by decide) ⟨rfl, rfl, rfl, rfl, rfl, hS2687, (fun dr hd => (Option.some.inj (d2.symm.trans hd)) ▸ hO2690), (Or.inr (⟨(by (try rw [w2247]); first | done | with_reducible assumption | omega), (by (try rw [w2247]); (try rw [c2693]); first | done | with_reducible assumption | omega), (by (try rw [w2247]); (try rw [c2696]); first | done | with_reducible assumption | omega), (by (try rw [w2247]); (try rw [c2698]); first | done | with_reducible assumption | omega), trivial⟩)), trivial⟩
              · skip
                exfalso; omega
          · skip
            obtain ⟨v2714, c2715⟩ : ∃ v, I2269 a0 9 = v := ⟨_, rfl⟩
            have b2716 := iv15_9 hS2277.1 ta0 c2715
            rw [c2715] at p2295
            obtain ⟨v2717, c2718⟩ : ∃ v, I2269 a0 13 = v := ⟨_, rfl⟩
            rw [c2718] at p2296
            obtain ⟨v2719, c2720⟩ : ∃ v, I2269 a0 14 = v := ⟨_, rfl⟩
            rw [c2720] at p2297
            replace hF := hF.pos (by omega)
            replace hP := hP.pos (by omega)
            refine tr_goto 42 dX12_readEvent_37 (by decide) ?_
            refine tr_istore_n dX12_readEvent_42 (by decide) (by decide) ?_
            refine tr_aload_n dX12_readEvent_43 rfl ?_
            refine q_iconst dX12_readEvent_44 (by decide) ?_
            intro v2721 h2722
            refine tr_aload_n dX12_readEvent_45 rfl ?_
            refine tr_getR dX12_readEvent_46 fl12_188 (kR15 hS2277.1 ta0) d2 ?_
            refine q_getI dX12_readEvent_49 fl12_192 (kR14 hS2277.1 ta1) ((hS2277.cell ta1 (by decide +kernel)).trans c30) ?_
            refine q_iconst dX12_readEvent_52 (by decide) ?_
            intro v2723 h2724
            refine q_isubE dX12_readEvent_53 (by intros; omega) ?_
            intro v2725 h2726
            refine q_callVi hE (M' := mX12_readWhole) (as := [_, _]) dX12_readEvent_54 lk12_161 inX12_readWhole seX12_readWhole myX12_readWhole (by decide) ⟨by decide, by decide⟩ rfl (kR15 hS2277.1 ta0) (Nat.le_of_ble_eq_true rfl) rfl rfl (by decide) (by decide) (k_X12_readWhole hS2277.1 ta0) ?_
            rintro v2731 cn' K' N' I2727 R2728 L2729 ⟨rfl, rfl, rfl, rfl, g2730, p2732, w2733, -⟩
            have hS2734 := hS2277.tr g2730 (by decide +kernel) (by decide +kernel)
            have c2735 : I2727 a1 2 = v37 := (g2730.cell ta1 (by decide +kernel)).trans c2278
            have b2736 : 0 ≤ v2731.toInt ∧ v2731.toInt ≤ 239 := by omega
            clear p2732
            have hO2737 : FrO 14 a1 T I0 I2727 := hO2279.st g2730 (by decide +kernel)
            have ov2738 := w2733.over (by rw [c2715]; omega)
            obtain ⟨v2739, c2740⟩ : ∃ v, I2727 a0 9 = v := ⟨_, rfl⟩
            have b2741 := iv15_9 hS2734.1 ta0 c2740
            obtain ⟨v2742, c2743⟩ : ∃ v, I2727 a0 13 = v := ⟨_, rfl⟩
            obtain ⟨v2744, c2745⟩ : ∃ v, I2727 a0 14 = v := ⟨_, rfl⟩
            (try rw [c2740] at ov2738)
            (try rw [c2743] at ov2738)
            (try rw [c2745] at ov2738)
            (try rw [c2715] at ov2738)
            (try rw [c2718] at ov2738)
            (try rw [c2720] at ov2738)
            refine tr_istore_n dX12_readEvent_57 (by decide) (by decide) ?_
            refine tr_iload_n dX12_readEvent_58 rfl ?_
            refine q_iconst dX12_readEvent_59 (by decide) ?_
            intro v2746 h2747
            refine q_icmp_ne 69 dX12_readEvent_60 (by decide) (fun h2748 => ?_) (fun h2748 => ?_)
            · skip
              refine tr_aload_n dX12_readEvent_69 rfl ?_
              refine tr_ldcwS dX12_readEvent_70 ld12_272 ?_
              refine tr_iload_n dX12_readEvent_73 rfl ?_
              refine q_iconst dX12_readEvent_74 (by decide) ?_
              intro v2749 h2750
              refine q_iaddE dX12_readEvent_75 (by intros; omega) ?_
              intro v2751 h2752
              refine tr_aload_n dX12_readEvent_76 rfl ?_
              refine tr_getR dX12_readEvent_77 fl12_188 (kR15 hS2734.1 ta0) d2 ?_
              refine q_getI dX12_readEvent_80 fl12_192 (kR14 hS2734.1 ta1) ((hS2734.cell ta1 (by decide +kernel)).trans c30) ?_
              refine q_callVi hE (M' := mX12_readPart) (as := [_, _, _]) dX12_readEvent_83 lk12_249 inX12_readPart seX12_readPart myX12_readPart (by decide) ⟨by decide, by decide⟩ rfl (kR15 hS2734.1 ta0) (Nat.le_of_ble_eq_true rfl) rfl rfl (by decide) (by decide) (k_X12_readPart hS2734.1 ta0 (by decide)) ?_
              rintro v2757 cn' K' N' I2753 R2754 L2755 ⟨rfl, rfl, rfl, rfl, g2756, p2758, w2759, -⟩
              have hS2760 := hS2734.tr g2756 (by decide +kernel) (by decide +kernel)
              have c2761 : I2753 a1 2 = v37 := (g2756.cell ta1 (by decide +kernel)).trans c2735
              have b2762 : 1 ≤ v2757.toInt ∧ v2757.toInt ≤ 240 := by omega
              clear p2758
              have hO2763 : FrO 14 a1 T I0 I2753 := hO2737.st g2756 (by decide +kernel)
              have ov2764 := w2759.over (by rw [c2740]; omega)
              obtain ⟨v2765, c2766⟩ : ∃ v, I2753 a0 9 = v := ⟨_, rfl⟩
              have b2767 := iv15_9 hS2760.1 ta0 c2766
              obtain ⟨v2768, c2769⟩ : ∃ v, I2753 a0 13 = v := ⟨_, rfl⟩
              obtain ⟨v2770, c2771⟩ : ∃ v, I2753 a0 14 = v := ⟨_, rfl⟩
              (try rw [c2766] at ov2764)
              (try rw [c2769] at ov2764)
              (try rw [c2771] at ov2764)
              (try rw [c2740] at ov2764)
              (try rw [c2743] at ov2764)
              (try rw [c2745] at ov2764)
              refine tr_istore dX12_readEvent_86 (by decide) (by decide) ?_
              refine tr_aload_n dX12_readEvent_88 rfl ?_
              refine q_getI dX12_readEvent_89 fl12_99 (kR15 hS2760.1 ta0) c2766 ?_
              refine q_iconst dX12_readEvent_92 (by decide) ?_
              intro v2772 h2773
              refine q_icmp_ne 97 dX12_readEvent_93 (by decide) (fun h2774 => ?_) (fun h2774 => ?_)
              · skip
                exfalso; omega
              · skip
                have eF := hF.eq
                have eP := hP.eq
                obtain ⟨v2775, c2776⟩ : ∃ v, I2753 a0 10 = v := ⟨_, rfl⟩
                have b2777 := iv15_10 hS2760.1 ta0 c2776
                obtain ⟨v2778, c2779⟩ : ∃ v, I2753 a0 11 = v := ⟨_, rfl⟩
                obtain ⟨y2780, c2781⟩ : ∃ v, L2755 a0 15 = v := ⟨_, rfl⟩
                obtain ⟨v2782, c2783⟩ : ∃ v, I2753 a0 12 = v := ⟨_, rfl⟩
                obtain ⟨v2784, c2785⟩ : ∃ v, I2753 a0 8 = v := ⟨_, rfl⟩
                have b2786 := iv15_8 hS2760.1 ta0 c2785
                exact tr_vret hZ dX12_readEvent_96 rfl (by decide) (by decide) ⟨rfl, rfl, rfl, rfl, rfl, hS2760, (fun dr hd => (Option.some.inj (d2.symm.trans hd)) ▸ hO2763), (Or.inr (⟨(by (try rw [w2247]); first | done | with_reducible assumption | omega), (by (try rw [w2247]); (try rw [c2766]); first | done | with_reducible assumption | omega), (by (try rw [w2247]); (try rw [c2769]); first | done | with_reducible assumption | omega), (by (try rw [w2247]); (try rw [c2771]); first | done | with_reducible assumption | omega), trivial⟩)), trivial⟩
            · skip
              exfalso; omega
          · skip
            obtain ⟨v2787, c2788⟩ : ∃ v, I2269 a0 9 = v := ⟨_, rfl⟩
            have b2789 := iv15_9 hS2277.1 ta0 c2788
            rw [c2788] at p2301
            obtain ⟨v2790, c2791⟩ : ∃ v, I2269 a0 13 = v := ⟨_, rfl⟩
            rw [c2791] at p2302
            obtain ⟨v2792, c2793⟩ : ∃ v, I2269 a0 14 = v := ⟨_, rfl⟩
            rw [c2793] at p2303
            replace hF := hF.neg (by omega)
            replace hP := hP.neg (by omega)
            replace hF := hF.pos (by omega)
            replace hP := hP.pos (by omega)
            refine tr_goto 42 dX12_readEvent_37 (by decide) ?_
            refine tr_istore_n dX12_readEvent_42 (by decide) (by decide) ?_
            refine tr_aload_n dX12_readEvent_43 rfl ?_
            refine q_iconst dX12_readEvent_44 (by decide) ?_
            intro v2794 h2795
            refine tr_aload_n dX12_readEvent_45 rfl ?_
            refine tr_getR dX12_readEvent_46 fl12_188 (kR15 hS2277.1 ta0) d2 ?_
            refine q_getI dX12_readEvent_49 fl12_192 (kR14 hS2277.1 ta1) ((hS2277.cell ta1 (by decide +kernel)).trans c30) ?_
            refine q_iconst dX12_readEvent_52 (by decide) ?_
            intro v2796 h2797
            refine q_isubE dX12_readEvent_53 (by intros; omega) ?_
            intro v2798 h2799
            refine q_callVi hE (M' := mX12_readWhole) (as := [_, _]) dX12_readEvent_54 lk12_161 inX12_readWhole seX12_readWhole myX12_readWhole (by decide) ⟨by decide, by decide⟩ rfl (kR15 hS2277.1 ta0) (Nat.le_of_ble_eq_true rfl) rfl rfl (by decide) (by decide) (k_X12_readWhole hS2277.1 ta0) ?_
            rintro v2804 cn' K' N' I2800 R2801 L2802 ⟨rfl, rfl, rfl, rfl, g2803, p2805, w2806, -⟩
            have hS2807 := hS2277.tr g2803 (by decide +kernel) (by decide +kernel)
            have c2808 : I2800 a1 2 = v37 := (g2803.cell ta1 (by decide +kernel)).trans c2278
            have b2809 : 0 ≤ v2804.toInt ∧ v2804.toInt ≤ 239 := by omega
            clear p2805
            have hO2810 : FrO 14 a1 T I0 I2800 := hO2279.st g2803 (by decide +kernel)
            have ov2811 := w2806.over (by rw [c2788]; omega)
            obtain ⟨v2812, c2813⟩ : ∃ v, I2800 a0 9 = v := ⟨_, rfl⟩
            have b2814 := iv15_9 hS2807.1 ta0 c2813
            obtain ⟨v2815, c2816⟩ : ∃ v, I2800 a0 13 = v := ⟨_, rfl⟩
            obtain ⟨v2817, c2818⟩ : ∃ v, I2800 a0 14 = v := ⟨_, rfl⟩
            (try rw [c2813] at ov2811)
            (try rw [c2816] at ov2811)
            (try rw [c2818] at ov2811)
            (try rw [c2788] at ov2811)
            (try rw [c2791] at ov2811)
            (try rw [c2793] at ov2811)
            refine tr_istore_n dX12_readEvent_57 (by decide) (by decide) ?_
            refine tr_iload_n dX12_readEvent_58 rfl ?_
            refine q_iconst dX12_readEvent_59 (by decide) ?_
            intro v2819 h2820
            refine q_icmp_ne 69 dX12_readEvent_60 (by decide) (fun h2821 => ?_) (fun h2821 => ?_)
            · skip
              refine tr_aload_n dX12_readEvent_69 rfl ?_
              refine tr_ldcwS dX12_readEvent_70 ld12_272 ?_
              refine tr_iload_n dX12_readEvent_73 rfl ?_
              refine q_iconst dX12_readEvent_74 (by decide) ?_
              intro v2822 h2823
              refine q_iaddE dX12_readEvent_75 (by intros; omega) ?_
              intro v2824 h2825
              refine tr_aload_n dX12_readEvent_76 rfl ?_
              refine tr_getR dX12_readEvent_77 fl12_188 (kR15 hS2807.1 ta0) d2 ?_
              refine q_getI dX12_readEvent_80 fl12_192 (kR14 hS2807.1 ta1) ((hS2807.cell ta1 (by decide +kernel)).trans c30) ?_
              refine q_callVi hE (M' := mX12_readPart) (as := [_, _, _]) dX12_readEvent_83 lk12_249 inX12_readPart seX12_readPart myX12_readPart (by decide) ⟨by decide, by decide⟩ rfl (kR15 hS2807.1 ta0) (Nat.le_of_ble_eq_true rfl) rfl rfl (by decide) (by decide) (k_X12_readPart hS2807.1 ta0 (by decide)) ?_
              rintro v2830 cn' K' N' I2826 R2827 L2828 ⟨rfl, rfl, rfl, rfl, g2829, p2831, w2832, -⟩
              have hS2833 := hS2807.tr g2829 (by decide +kernel) (by decide +kernel)
              have c2834 : I2826 a1 2 = v37 := (g2829.cell ta1 (by decide +kernel)).trans c2808
              have b2835 : 1 ≤ v2830.toInt ∧ v2830.toInt ≤ 240 := by omega
              clear p2831
              have hO2836 : FrO 14 a1 T I0 I2826 := hO2810.st g2829 (by decide +kernel)
              have ov2837 := w2832.over (by rw [c2813]; omega)
              obtain ⟨v2838, c2839⟩ : ∃ v, I2826 a0 9 = v := ⟨_, rfl⟩
              have b2840 := iv15_9 hS2833.1 ta0 c2839
              obtain ⟨v2841, c2842⟩ : ∃ v, I2826 a0 13 = v := ⟨_, rfl⟩
              obtain ⟨v2843, c2844⟩ : ∃ v, I2826 a0 14 = v := ⟨_, rfl⟩
              (try rw [c2839] at ov2837)
              (try rw [c2842] at ov2837)
              (try rw [c2844] at ov2837)
              (try rw [c2813] at ov2837)
              (try rw [c2816] at ov2837)
              (try rw [c2818] at ov2837)
              refine tr_istore dX12_readEvent_86 (by decide) (by decide) ?_
              refine tr_aload_n dX12_readEvent_88 rfl ?_
              refine q_getI dX12_readEvent_89 fl12_99 (kR15 hS2833.1 ta0) c2839 ?_
              refine q_iconst dX12_readEvent_92 (by decide) ?_
              intro v2845 h2846
              refine q_icmp_ne 97 dX12_readEvent_93 (by decide) (fun h2847 => ?_) (fun h2847 => ?_)
              · skip
                exfalso; omega
              · skip
                have eF := hF.eq
                have eP := hP.eq
                obtain ⟨v2848, c2849⟩ : ∃ v, I2826 a0 10 = v := ⟨_, rfl⟩
                have b2850 := iv15_10 hS2833.1 ta0 c2849
                obtain ⟨v2851, c2852⟩ : ∃ v, I2826 a0 11 = v := ⟨_, rfl⟩
                obtain ⟨y2853, c2854⟩ : ∃ v, L2828 a0 15 = v := ⟨_, rfl⟩
                obtain ⟨v2855, c2856⟩ : ∃ v, I2826 a0 12 = v := ⟨_, rfl⟩
                obtain ⟨v2857, c2858⟩ : ∃ v, I2826 a0 8 = v := ⟨_, rfl⟩
                have b2859 := iv15_8 hS2833.1 ta0 c2858
                exact tr_vret hZ dX12_readEvent_96 rfl (by decide) (by decide) ⟨rfl, rfl, rfl, rfl, rfl, hS2833, (fun dr hd => (Option.some.inj (d2.symm.trans hd)) ▸ hO2836), (Or.inr (⟨(by (try rw [w2247]); first | done | with_reducible assumption | omega), (by (try rw [w2247]); (try rw [c2839]); first | done | with_reducible assumption | omega), (by (try rw [w2247]); (try rw [c2842]); first | done | with_reducible assumption | omega), (by (try rw [w2247]); (try rw [c2844]); first | done | with_reducible assumption | omega), trivial⟩)), trivial⟩
            · skip
              exfalso; omega
    · skip
      obtain ⟨v2860, c2861⟩ : ∃ v, I2194 a0 9 = v := ⟨_, rfl⟩
      have b2862 := iv15_9 hS2202.1 ta0 c2861
      rw [c2861] at p2217
      obtain ⟨v2863, c2864⟩ : ∃ v, I2194 a0 13 = v := ⟨_, rfl⟩
      rw [c2864] at p2218
      obtain ⟨v2865, c2866⟩ : ∃ v, I2194 a0 14 = v := ⟨_, rfl⟩
      rw [c2866] at p2219
      have p2867 := p61
      unfold Q7M at p2867
      replace hF := hF.pos (by omega)
      replace hP := hP.pos (by omega)
      clear p2867
      refine tr_iload_n dX12_readEvent_13 rfl ?_
      refine q_iconst dX12_readEvent_14 (by decide) ?_
      intro v2868 h2869
      refine q_icmp_eq 23 dX12_readEvent_15 (by decide) (fun h2870 => ?_) (fun h2870 => ?_)
      · skip
        exfalso; omega
      · skip
        refine tr_iload_n dX12_readEvent_18 rfl ?_
        refine q_iconst dX12_readEvent_19 (by decide) ?_
        intro v2871 h2872
        refine q_icmp_ne 40 dX12_readEvent_20 (by decide) (fun h2873 => ?_) (fun h2873 => ?_)
        · skip
          exfalso; omega
        · skip
          refine tr_aload_n dX12_readEvent_23 rfl ?_
          refine q_iconst dX12_readEvent_24 (by decide) ?_
          intro v2874 h2875
          refine tr_aload_n dX12_readEvent_25 rfl ?_
          refine tr_getR dX12_readEvent_26 fl12_188 (kR15 hS2202.1 ta0) d2 ?_
          refine q_getI dX12_readEvent_29 fl12_263 (kR14 hS2202.1 ta1) ((hS2202.cell ta1 (by decide +kernel)).trans c34) ?_
          refine q_iconst dX12_readEvent_32 (by decide) ?_
          intro v2876 h2877
          refine q_isubE dX12_readEvent_33 (by intros; omega) ?_
          intro v2878 h2879
          refine q_callVi hE (M' := mX12_readWhole) (as := [_, _]) dX12_readEvent_34 lk12_161 inX12_readWhole seX12_readWhole myX12_readWhole (by decide) ⟨by decide, by decide⟩ rfl (kR15 hS2202.1 ta0) (Nat.le_of_ble_eq_true rfl) rfl rfl (by decide) (by decide) (k_X12_readWhole hS2202.1 ta0) ?_
          rintro v2884 cn' K' N' I2880 R2881 L2882 ⟨rfl, rfl, rfl, rfl, g2883, p2885, w2886, -⟩
          have hS2887 := hS2202.tr g2883 (by decide +kernel) (by decide +kernel)
          have c2888 : I2880 a1 2 = v37 := (g2883.cell ta1 (by decide +kernel)).trans c2203
          have b2889 : 0 ≤ v2884.toInt ∧ v2884.toInt ≤ 3 := by omega
          clear p2885
          have hO2890 : FrO 14 a1 T I0 I2880 := hO2204.st g2883 (by decide +kernel)
          have ov2891 := w2886.over (by rw [c2861]; omega)
          obtain ⟨v2892, c2893⟩ : ∃ v, I2880 a0 9 = v := ⟨_, rfl⟩
          have b2894 := iv15_9 hS2887.1 ta0 c2893
          obtain ⟨v2895, c2896⟩ : ∃ v, I2880 a0 13 = v := ⟨_, rfl⟩
          obtain ⟨v2897, c2898⟩ : ∃ v, I2880 a0 14 = v := ⟨_, rfl⟩
          (try rw [c2893] at ov2891)
          (try rw [c2896] at ov2891)
          (try rw [c2898] at ov2891)
          (try rw [c2861] at ov2891)
          (try rw [c2864] at ov2891)
          (try rw [c2866] at ov2891)
          refine tr_goto 42 dX12_readEvent_37 (by decide) ?_
          refine tr_istore_n dX12_readEvent_42 (by decide) (by decide) ?_
          refine tr_aload_n dX12_readEvent_43 rfl ?_
          refine q_iconst dX12_readEvent_44 (by decide) ?_
          intro v2899 h2900
          refine tr_aload_n dX12_readEvent_45 rfl ?_
          refine tr_getR dX12_readEvent_46 fl12_188 (kR15 hS2887.1 ta0) d2 ?_
          refine q_getI dX12_readEvent_49 fl12_192 (kR14 hS2887.1 ta1) ((hS2887.cell ta1 (by decide +kernel)).trans c30) ?_
          refine q_iconst dX12_readEvent_52 (by decide) ?_
          intro v2901 h2902
          refine q_isubE dX12_readEvent_53 (by intros; omega) ?_
          intro v2903 h2904
          refine q_callVi hE (M' := mX12_readWhole) (as := [_, _]) dX12_readEvent_54 lk12_161 inX12_readWhole seX12_readWhole myX12_readWhole (by decide) ⟨by decide, by decide⟩ rfl (kR15 hS2887.1 ta0) (Nat.le_of_ble_eq_true rfl) rfl rfl (by decide) (by decide) (k_X12_readWhole hS2887.1 ta0) ?_
          rintro v2909 cn' K' N' I2905 R2906 L2907 ⟨rfl, rfl, rfl, rfl, g2908, p2910, w2911, -⟩
          have hS2912 := hS2887.tr g2908 (by decide +kernel) (by decide +kernel)
          have c2913 : I2905 a1 2 = v37 := (g2908.cell ta1 (by decide +kernel)).trans c2888
          have b2914 : 0 ≤ v2909.toInt ∧ v2909.toInt ≤ 239 := by omega
          clear p2910
          have hO2915 : FrO 14 a1 T I0 I2905 := hO2890.st g2908 (by decide +kernel)
          have ov2916 := w2911.over (by rw [c2893]; omega)
          obtain ⟨v2917, c2918⟩ : ∃ v, I2905 a0 9 = v := ⟨_, rfl⟩
          have b2919 := iv15_9 hS2912.1 ta0 c2918
          obtain ⟨v2920, c2921⟩ : ∃ v, I2905 a0 13 = v := ⟨_, rfl⟩
          obtain ⟨v2922, c2923⟩ : ∃ v, I2905 a0 14 = v := ⟨_, rfl⟩
          (try rw [c2918] at ov2916)
          (try rw [c2921] at ov2916)
          (try rw [c2923] at ov2916)
          (try rw [c2893] at ov2916)
          (try rw [c2896] at ov2916)
          (try rw [c2898] at ov2916)
          refine tr_istore_n dX12_readEvent_57 (by decide) (by decide) ?_
          refine tr_iload_n dX12_readEvent_58 rfl ?_
          refine q_iconst dX12_readEvent_59 (by decide) ?_
          intro v2924 h2925
          refine q_icmp_ne 69 dX12_readEvent_60 (by decide) (fun h2926 => ?_) (fun h2926 => ?_)
          · skip
            refine tr_aload_n dX12_readEvent_69 rfl ?_
            refine tr_ldcwS dX12_readEvent_70 ld12_272 ?_
            refine tr_iload_n dX12_readEvent_73 rfl ?_
            refine q_iconst dX12_readEvent_74 (by decide) ?_
            intro v2927 h2928
            refine q_iaddE dX12_readEvent_75 (by intros; omega) ?_
            intro v2929 h2930
            refine tr_aload_n dX12_readEvent_76 rfl ?_
            refine tr_getR dX12_readEvent_77 fl12_188 (kR15 hS2912.1 ta0) d2 ?_
            refine q_getI dX12_readEvent_80 fl12_192 (kR14 hS2912.1 ta1) ((hS2912.cell ta1 (by decide +kernel)).trans c30) ?_
            refine q_callVi hE (M' := mX12_readPart) (as := [_, _, _]) dX12_readEvent_83 lk12_249 inX12_readPart seX12_readPart myX12_readPart (by decide) ⟨by decide, by decide⟩ rfl (kR15 hS2912.1 ta0) (Nat.le_of_ble_eq_true rfl) rfl rfl (by decide) (by decide) (k_X12_readPart hS2912.1 ta0 (by decide)) ?_
            rintro v2935 cn' K' N' I2931 R2932 L2933 ⟨rfl, rfl, rfl, rfl, g2934, p2936, w2937, -⟩
            have hS2938 := hS2912.tr g2934 (by decide +kernel) (by decide +kernel)
            have c2939 : I2931 a1 2 = v37 := (g2934.cell ta1 (by decide +kernel)).trans c2913
            have b2940 : 1 ≤ v2935.toInt ∧ v2935.toInt ≤ 240 := by omega
            clear p2936
            have hO2941 : FrO 14 a1 T I0 I2931 := hO2915.st g2934 (by decide +kernel)
            have ov2942 := w2937.over (by rw [c2918]; omega)
            obtain ⟨v2943, c2944⟩ : ∃ v, I2931 a0 9 = v := ⟨_, rfl⟩
            have b2945 := iv15_9 hS2938.1 ta0 c2944
            obtain ⟨v2946, c2947⟩ : ∃ v, I2931 a0 13 = v := ⟨_, rfl⟩
            obtain ⟨v2948, c2949⟩ : ∃ v, I2931 a0 14 = v := ⟨_, rfl⟩
            (try rw [c2944] at ov2942)
            (try rw [c2947] at ov2942)
            (try rw [c2949] at ov2942)
            (try rw [c2918] at ov2942)
            (try rw [c2921] at ov2942)
            (try rw [c2923] at ov2942)
            refine tr_istore dX12_readEvent_86 (by decide) (by decide) ?_
            refine tr_aload_n dX12_readEvent_88 rfl ?_
            refine q_getI dX12_readEvent_89 fl12_99 (kR15 hS2938.1 ta0) c2944 ?_
            refine q_iconst dX12_readEvent_92 (by decide) ?_
            intro v2950 h2951
            refine q_icmp_ne 97 dX12_readEvent_93 (by decide) (fun h2952 => ?_) (fun h2952 => ?_)
            · skip
              exfalso; omega
            · skip
              have eF := hF.eq
              have eP := hP.eq
              obtain ⟨v2953, c2954⟩ : ∃ v, I2931 a0 10 = v := ⟨_, rfl⟩
              have b2955 := iv15_10 hS2938.1 ta0 c2954
              obtain ⟨v2956, c2957⟩ : ∃ v, I2931 a0 11 = v := ⟨_, rfl⟩
              obtain ⟨y2958, c2959⟩ : ∃ v, L2933 a0 15 = v := ⟨_, rfl⟩
              obtain ⟨v2960, c2961⟩ : ∃ v, I2931 a0 12 = v := ⟨_, rfl⟩
              obtain ⟨v2962, c2963⟩ : ∃ v, I2931 a0 8 = v := ⟨_, rfl⟩
              have b2964 := iv15_8 hS2938.1 ta0 c2963
              exact tr_vret hZ dX12_readEvent_96 rfl (by decide) (by decide) ⟨rfl, rfl, rfl, rfl, rfl, hS2938, (fun dr hd => (Option.some.inj (d2.symm.trans hd)) ▸ hO2941), (Or.inr (⟨(by first | done | with_reducible assumption | omega), (by (try rw [c2944]); first | done | with_reducible assumption | omega), (by (try rw [c2947]); first | done | with_reducible assumption | omega), (by (try rw [c2949]); first | done | with_reducible assumption | omega), trivial⟩)), trivial⟩
          · skip
            exfalso; omega
    · skip
      obtain ⟨v2965, c2966⟩ : ∃ v, I2194 a0 9 = v := ⟨_, rfl⟩
      have b2967 := iv15_9 hS2202.1 ta0 c2966
      rw [c2966] at p2222
      obtain ⟨v2968, c2969⟩ : ∃ v, I2194 a0 13 = v := ⟨_, rfl⟩
      rw [c2969] at p2223
      obtain ⟨v2970, c2971⟩ : ∃ v, I2194 a0 14 = v := ⟨_, rfl⟩
      rw [c2971] at p2224
      have p2972 := p61
      unfold Q7M at p2972
      replace hF := hF.neg (by omega)
      replace hP := hP.neg (by omega)
      replace hF := hF.pos (by omega)
      replace hP := hP.pos (by omega)
      clear p2972
      refine tr_iload_n dX12_readEvent_13 rfl ?_
      refine q_iconst dX12_readEvent_14 (by decide) ?_
      intro v2973 h2974
      refine q_icmp_eq 23 dX12_readEvent_15 (by decide) (fun h2975 => ?_) (fun h2975 => ?_)
      · skip
        exfalso; omega
      · skip
        refine tr_iload_n dX12_readEvent_18 rfl ?_
        refine q_iconst dX12_readEvent_19 (by decide) ?_
        intro v2976 h2977
        refine q_icmp_ne 40 dX12_readEvent_20 (by decide) (fun h2978 => ?_) (fun h2978 => ?_)
        · skip
          exfalso; omega
        · skip
          refine tr_aload_n dX12_readEvent_23 rfl ?_
          refine q_iconst dX12_readEvent_24 (by decide) ?_
          intro v2979 h2980
          refine tr_aload_n dX12_readEvent_25 rfl ?_
          refine tr_getR dX12_readEvent_26 fl12_188 (kR15 hS2202.1 ta0) d2 ?_
          refine q_getI dX12_readEvent_29 fl12_263 (kR14 hS2202.1 ta1) ((hS2202.cell ta1 (by decide +kernel)).trans c34) ?_
          refine q_iconst dX12_readEvent_32 (by decide) ?_
          intro v2981 h2982
          refine q_isubE dX12_readEvent_33 (by intros; omega) ?_
          intro v2983 h2984
          refine q_callVi hE (M' := mX12_readWhole) (as := [_, _]) dX12_readEvent_34 lk12_161 inX12_readWhole seX12_readWhole myX12_readWhole (by decide) ⟨by decide, by decide⟩ rfl (kR15 hS2202.1 ta0) (Nat.le_of_ble_eq_true rfl) rfl rfl (by decide) (by decide) (k_X12_readWhole hS2202.1 ta0) ?_
          rintro v2989 cn' K' N' I2985 R2986 L2987 ⟨rfl, rfl, rfl, rfl, g2988, p2990, w2991, -⟩
          have hS2992 := hS2202.tr g2988 (by decide +kernel) (by decide +kernel)
          have c2993 : I2985 a1 2 = v37 := (g2988.cell ta1 (by decide +kernel)).trans c2203
          have b2994 : 0 ≤ v2989.toInt ∧ v2989.toInt ≤ 3 := by omega
          clear p2990
          have hO2995 : FrO 14 a1 T I0 I2985 := hO2204.st g2988 (by decide +kernel)
          have ov2996 := w2991.over (by rw [c2966]; omega)
          obtain ⟨v2997, c2998⟩ : ∃ v, I2985 a0 9 = v := ⟨_, rfl⟩
          have b2999 := iv15_9 hS2992.1 ta0 c2998
          obtain ⟨v3000, c3001⟩ : ∃ v, I2985 a0 13 = v := ⟨_, rfl⟩
          obtain ⟨v3002, c3003⟩ : ∃ v, I2985 a0 14 = v := ⟨_, rfl⟩
          (try rw [c2998] at ov2996)
          (try rw [c3001] at ov2996)
          (try rw [c3003] at ov2996)
          (try rw [c2966] at ov2996)
          (try rw [c2969] at ov2996)
          (try rw [c2971] at ov2996)
          refine tr_goto 42 dX12_readEvent_37 (by decide) ?_
          refine tr_istore_n dX12_readEvent_42 (by decide) (by decide) ?_
          refine tr_aload_n dX12_readEvent_43 rfl ?_
          refine q_iconst dX12_readEvent_44 (by decide) ?_
          intro v3004 h3005
          refine tr_aload_n dX12_readEvent_45 rfl ?_
          refine tr_getR dX12_readEvent_46 fl12_188 (kR15 hS2992.1 ta0) d2 ?_
          refine q_getI dX12_readEvent_49 fl12_192 (kR14 hS2992.1 ta1) ((hS2992.cell ta1 (by decide +kernel)).trans c30) ?_
          refine q_iconst dX12_readEvent_52 (by decide) ?_
          intro v3006 h3007
          refine q_isubE dX12_readEvent_53 (by intros; omega) ?_
          intro v3008 h3009
          refine q_callVi hE (M' := mX12_readWhole) (as := [_, _]) dX12_readEvent_54 lk12_161 inX12_readWhole seX12_readWhole myX12_readWhole (by decide) ⟨by decide, by decide⟩ rfl (kR15 hS2992.1 ta0) (Nat.le_of_ble_eq_true rfl) rfl rfl (by decide) (by decide) (k_X12_readWhole hS2992.1 ta0) ?_
          rintro v3014 cn' K' N' I3010 R3011 L3012 ⟨rfl, rfl, rfl, rfl, g3013, p3015, w3016, -⟩
          have hS3017 := hS2992.tr g3013 (by decide +kernel) (by decide +kernel)
          have c3018 : I3010 a1 2 = v37 := (g3013.cell ta1 (by decide +kernel)).trans c2993
          have b3019 : 0 ≤ v3014.toInt ∧ v3014.toInt ≤ 0 := by omega
          clear p3015
          have hO3020 : FrO 14 a1 T I0 I3010 := hO2995.st g3013 (by decide +kernel)
          have ov3021 := w3016.over (by rw [c2998]; omega)
          obtain ⟨v3022, c3023⟩ : ∃ v, I3010 a0 9 = v := ⟨_, rfl⟩
          have b3024 := iv15_9 hS3017.1 ta0 c3023
          obtain ⟨v3025, c3026⟩ : ∃ v, I3010 a0 13 = v := ⟨_, rfl⟩
          obtain ⟨v3027, c3028⟩ : ∃ v, I3010 a0 14 = v := ⟨_, rfl⟩
          (try rw [c3023] at ov3021)
          (try rw [c3026] at ov3021)
          (try rw [c3028] at ov3021)
          (try rw [c2998] at ov3021)
          (try rw [c3001] at ov3021)
          (try rw [c3003] at ov3021)
          refine tr_istore_n dX12_readEvent_57 (by decide) (by decide) ?_
          refine tr_iload_n dX12_readEvent_58 rfl ?_
          refine q_iconst dX12_readEvent_59 (by decide) ?_
          intro v3029 h3030
          refine q_icmp_ne 69 dX12_readEvent_60 (by decide) (fun h3031 => ?_) (fun h3031 => ?_)
          · skip
            refine tr_aload_n dX12_readEvent_69 rfl ?_
            refine tr_ldcwS dX12_readEvent_70 ld12_272 ?_
            refine tr_iload_n dX12_readEvent_73 rfl ?_
            refine q_iconst dX12_readEvent_74 (by decide) ?_
            intro v3032 h3033
            refine q_iaddE dX12_readEvent_75 (by intros; omega) ?_
            intro v3034 h3035
            refine tr_aload_n dX12_readEvent_76 rfl ?_
            refine tr_getR dX12_readEvent_77 fl12_188 (kR15 hS3017.1 ta0) d2 ?_
            refine q_getI dX12_readEvent_80 fl12_192 (kR14 hS3017.1 ta1) ((hS3017.cell ta1 (by decide +kernel)).trans c30) ?_
            refine q_callVi hE (M' := mX12_readPart) (as := [_, _, _]) dX12_readEvent_83 lk12_249 inX12_readPart seX12_readPart myX12_readPart (by decide) ⟨by decide, by decide⟩ rfl (kR15 hS3017.1 ta0) (Nat.le_of_ble_eq_true rfl) rfl rfl (by decide) (by decide) (k_X12_readPart hS3017.1 ta0 (by decide)) ?_
            rintro v3040 cn' K' N' I3036 R3037 L3038 ⟨rfl, rfl, rfl, rfl, g3039, p3041, w3042, -⟩
            have hS3043 := hS3017.tr g3039 (by decide +kernel) (by decide +kernel)
            have c3044 : I3036 a1 2 = v37 := (g3039.cell ta1 (by decide +kernel)).trans c3018
            have b3045 : 1 ≤ v3040.toInt ∧ v3040.toInt ≤ 1 := by omega
            clear p3041
            have hO3046 : FrO 14 a1 T I0 I3036 := hO3020.st g3039 (by decide +kernel)
            have ov3047 := w3042.over (by rw [c3023]; omega)
            obtain ⟨v3048, c3049⟩ : ∃ v, I3036 a0 9 = v := ⟨_, rfl⟩
            have b3050 := iv15_9 hS3043.1 ta0 c3049
            obtain ⟨v3051, c3052⟩ : ∃ v, I3036 a0 13 = v := ⟨_, rfl⟩
            obtain ⟨v3053, c3054⟩ : ∃ v, I3036 a0 14 = v := ⟨_, rfl⟩
            (try rw [c3049] at ov3047)
            (try rw [c3052] at ov3047)
            (try rw [c3054] at ov3047)
            (try rw [c3023] at ov3047)
            (try rw [c3026] at ov3047)
            (try rw [c3028] at ov3047)
            refine tr_istore dX12_readEvent_86 (by decide) (by decide) ?_
            refine tr_aload_n dX12_readEvent_88 rfl ?_
            refine q_getI dX12_readEvent_89 fl12_99 (kR15 hS3043.1 ta0) c3049 ?_
            refine q_iconst dX12_readEvent_92 (by decide) ?_
            intro v3055 h3056
            refine q_icmp_ne 97 dX12_readEvent_93 (by decide) (fun h3057 => ?_) (fun h3057 => ?_)
            · skip
              exfalso; omega
            · skip
              have eF := hF.eq
              have eP := hP.eq
              obtain ⟨v3058, c3059⟩ : ∃ v, I3036 a0 10 = v := ⟨_, rfl⟩
              have b3060 := iv15_10 hS3043.1 ta0 c3059
              obtain ⟨v3061, c3062⟩ : ∃ v, I3036 a0 11 = v := ⟨_, rfl⟩
              obtain ⟨y3063, c3064⟩ : ∃ v, L3038 a0 15 = v := ⟨_, rfl⟩
              obtain ⟨v3065, c3066⟩ : ∃ v, I3036 a0 12 = v := ⟨_, rfl⟩
              obtain ⟨v3067, c3068⟩ : ∃ v, I3036 a0 8 = v := ⟨_, rfl⟩
              have b3069 := iv15_8 hS3043.1 ta0 c3068
              exact tr_vret hZ dX12_readEvent_96 rfl (by decide) (by decide) ⟨rfl, rfl, rfl, rfl, rfl, hS3043, (fun dr hd => (Option.some.inj (d2.symm.trans hd)) ▸ hO3046), (Or.inr (⟨(by first | done | with_reducible assumption | omega), (by (try rw [c3049]); first | done | with_reducible assumption | omega), (by (try rw [c3052]); first | done | with_reducible assumption | omega), (by (try rw [c3054]); first | done | with_reducible assumption | omega), trivial⟩)), trivial⟩
          · skip
            exfalso; omega
  · skip
    refine tr_aload_n dX12_readEvent_0 rfl ?_
    refine tr_aload_n dX12_readEvent_1 rfl ?_
    refine tr_getR dX12_readEvent_2 fl12_188 (kR15 hS0.1 ta0) d2 ?_
    refine q_getI dX12_readEvent_5 fl12_265 (kR14 hS0.1 ta1) c38 ?_
    refine q_bipush dX12_readEvent_8 (by decide +kernel) ?_
    intro v3070 h3071
    refine q_callVv hE (M' := mX12_begins) (as := [_, _]) dX12_readEvent_10 lk12_268 inX12_begins seX12_begins myX12_begins (by decide) ⟨by decide, by decide⟩ rfl (kR15 hS0.1 ta0) (Nat.le_of_ble_eq_true rfl) rfl rfl (by decide) (by decide) (fk_X12_begins hS0.1 (gB) (gs) (gQ) ta0 (TxA.kp hT hS0 ta0 rfl rfl rfl (by decide +kernel) (by decide +kernel)) (by (try rw [c4]); first | done | with_reducible assumption | omega) (by (try rw [c4]); first | done | with_reducible assumption | omega) (by (try rw [c9]); first | done | with_reducible assumption | omega) (by (try rw [c13]); first | done | with_reducible assumption | omega) (by (try rw [c16]); first | done | assumption) (by (try rw [c19]); first | done | assumption) (by (try rw [c22]); first | done | assumption) (by (try rw [c26]); first | done | with_reducible assumption | omega) (fun q0 z0 => by obtain rfl := Option.some.inj ((d2).symm.trans z0); (try rw [c30]); first | done | with_reducible assumption | omega) (by first | done | with_reducible assumption | omega) ⟨_, d2⟩) ?_
    rintro cn' K' N' I3072 R3073 L3074 ⟨rfl, rfl, rfl, rfl, g3075, dj3078, -⟩
    have hM3079 : NmM I3072 R0 L0 a1 gQ := NmM.kpS hM0 g3075 hS0.1 ta1 (by decide +kernel) (by decide +kernel)
    have hS3080 := hS0.tr g3075 (by decide +kernel) (by decide +kernel)
    have c3081 : I3072 a1 2 = v37 := (g3075.cell ta1 (by decide +kernel)).trans c38
    have hO3082 : FrO 14 a1 T I0 I3072 := hO0.st g3075 (by decide +kernel)
    rcases dj3078 with ⟨p3083, p3084, p3085, p3086, p3087, p3088, p3089, p3090, p3091, p3092, gl3093, -⟩ | ⟨p3094, p3095, p3096, p3097, -⟩ | ⟨p3098, p3099, p3100, p3101, p3102, -⟩
    · skip
      have hL3103 := hL0.tr gl3093 (by decide +kernel)
      have hM3104 : NmM I3072 R0 L3074 a1 gQ := NmM.kpL hM3079 gl3093 hS3080.1 ta1 (by decide +kernel)
      obtain ⟨v3105, c3106⟩ : ∃ v, I3072 a0 13 = v := ⟨_, rfl⟩
      rw [c3106] at p3085
      rw [c65] at p3085
      obtain ⟨v3107, c3108⟩ : ∃ v, I3072 a0 9 = v := ⟨_, rfl⟩
      have b3109 := iv15_9 hS3080.1 ta0 c3108
      rw [c3108] at p3086
      rw [c3108] at p3087
      obtain ⟨v3110, c3111⟩ : ∃ v, I3072 a0 10 = v := ⟨_, rfl⟩
      have b3112 := iv15_10 hS3080.1 ta0 c3111
      rw [c3111] at p3088
      obtain ⟨v3113, c3114⟩ : ∃ v, I3072 a0 11 = v := ⟨_, rfl⟩
      rw [c3114] at p3089
      obtain ⟨y3115, c3116⟩ : ∃ v, L3074 a0 15 = v := ⟨_, rfl⟩
      rw [c3116] at p3090
      obtain ⟨v3117, c3118⟩ : ∃ v, I3072 a0 12 = v := ⟨_, rfl⟩
      rw [c3118] at p3091
      obtain ⟨v3119, c3120⟩ : ∃ v, I3072 a0 8 = v := ⟨_, rfl⟩
      have b3121 := iv15_8 hS3080.1 ta0 c3120
      rw [c3120] at p3092
      have p3122 := p61
      unfold Q7M at p3122
      replace hF := hF.neg (by omega)
      replace hP := hP.neg (by omega)
      replace hF := hF.neg (by omega)
      replace hP := hP.neg (by omega)
      clear p3122
      obtain ⟨w3123, w3124, w3125, w3126, w3127, w3128, w3129, w3130, w3131, w3132, w3133, w3134⟩ := lnl_e (B := gB) (Q := gQ) (s := gs) (by omega) (by omega)
      replace hF := hF.to w3123 (evF_c4 (B := gB) (Q := gQ) (k := srt gB gs) (s := (tkN gB gs)) (by omega))
      replace hP := hP.to w3124 (evP_c4 (B := gB) (Q := gQ) (k := srt gB gs) (s := (tkN gB gs)) (by omega))
      refine tr_iload_n dX12_readEvent_13 rfl ?_
      refine q_iconst dX12_readEvent_14 (by decide) ?_
      intro v3135 h3136
      refine q_icmp_eq 23 dX12_readEvent_15 (by decide) (fun h3137 => ?_) (fun h3137 => ?_)
      · skip
        exfalso; omega
      · skip
        refine tr_iload_n dX12_readEvent_18 rfl ?_
        refine q_iconst dX12_readEvent_19 (by decide) ?_
        intro v3138 h3139
        refine q_icmp_ne 40 dX12_readEvent_20 (by decide) (fun h3140 => ?_) (fun h3140 => ?_)
        · skip
          refine q_bipush dX12_readEvent_40 (by decide +kernel) ?_
          intro v3141 h3142
          refine tr_istore_n dX12_readEvent_42 (by decide) (by decide) ?_
          refine tr_aload_n dX12_readEvent_43 rfl ?_
          refine q_iconst dX12_readEvent_44 (by decide) ?_
          intro v3143 h3144
          refine tr_aload_n dX12_readEvent_45 rfl ?_
          refine tr_getR dX12_readEvent_46 fl12_188 (kR15 hS3080.1 ta0) d2 ?_
          refine q_getI dX12_readEvent_49 fl12_192 (kR14 hS3080.1 ta1) ((hS3080.cell ta1 (by decide +kernel)).trans c30) ?_
          refine q_iconst dX12_readEvent_52 (by decide) ?_
          intro v3145 h3146
          refine q_isubE dX12_readEvent_53 (by intros; omega) ?_
          intro v3147 h3148
          refine q_callVi hE (M' := mX12_readWhole) (as := [_, _]) dX12_readEvent_54 lk12_161 inX12_readWhole seX12_readWhole myX12_readWhole (by decide) ⟨by decide, by decide⟩ rfl (kR15 hS3080.1 ta0) (Nat.le_of_ble_eq_true rfl) rfl rfl (by decide) (by decide) (fk_X12_readWhole hS3080.1 (gB) ((tkN gB gs)) ta0 (TxA.kp hT hS3080 ta0 rfl rfl rfl (by decide +kernel) (by decide +kernel)) (by (try rw [c3108]); first | done | with_reducible assumption | omega) (by (try rw [c3108]); first | done | with_reducible assumption | omega) (by (try rw [c3111]); first | done | with_reducible assumption | omega) (by (try rw [c3114]); first | done | with_reducible assumption | omega) (by (try rw [c3116]); first | done | assumption) (by (try rw [c3118]); first | done | assumption) (by (try rw [c3120]); first | done | assumption) (by (try rw [((hS3080.cell ta0 (by decide +kernel)).trans c26)]); first | done | with_reducible assumption | omega)) ?_
          rintro v3154 cn' K' N' I3149 R3150 L3151 ⟨rfl, rfl, rfl, rfl, g3152, dj3155, -⟩
          have hM3156 : NmM I3149 R0 L3074 a1 gQ := NmM.kpS hM3104 g3152 hS3080.1 ta1 (by decide +kernel) (by decide +kernel)
          have hS3157 := hS3080.tr g3152 (by decide +kernel) (by decide +kernel)
          have c3158 : I3149 a1 2 = v37 := (g3152.cell ta1 (by decide +kernel)).trans c3081
          have hO3159 : FrO 14 a1 T I0 I3149 := hO3082.st g3152 (by decide +kernel)
          rcases dj3155 with ⟨p3160, p3161, p3162, p3163, p3164, p3165, p3166, p3167, p3168, p3169, p3170, p3171, gl3172, -⟩ | ⟨p3173, p3174, p3175, p3176, p3177, -⟩ | ⟨p3178, p3179, p3180, p3181, p3182, p3183, -⟩
          · skip
            have hL3184 := hL3103.tr gl3172 (by decide +kernel)
            have hM3185 : NmM I3149 R0 L3151 a1 gQ := NmM.kpL hM3156 gl3172 hS3157.1 ta1 (by decide +kernel)
            obtain ⟨v3186, c3187⟩ : ∃ v, I3149 a0 13 = v := ⟨_, rfl⟩
            rw [c3187] at p3164
            rw [c3106] at p3164
            obtain ⟨v3188, c3189⟩ : ∃ v, I3149 a0 9 = v := ⟨_, rfl⟩
            have b3190 := iv15_9 hS3157.1 ta0 c3189
            rw [c3189] at p3165
            rw [c3189] at p3166
            obtain ⟨v3191, c3192⟩ : ∃ v, I3149 a0 10 = v := ⟨_, rfl⟩
            have b3193 := iv15_10 hS3157.1 ta0 c3192
            rw [c3192] at p3167
            obtain ⟨v3194, c3195⟩ : ∃ v, I3149 a0 11 = v := ⟨_, rfl⟩
            rw [c3195] at p3168
            obtain ⟨y3196, c3197⟩ : ∃ v, L3151 a0 15 = v := ⟨_, rfl⟩
            rw [c3197] at p3169
            obtain ⟨v3198, c3199⟩ : ∃ v, I3149 a0 12 = v := ⟨_, rfl⟩
            rw [c3199] at p3170
            obtain ⟨v3200, c3201⟩ : ∃ v, I3149 a0 8 = v := ⟨_, rfl⟩
            have b3202 := iv15_8 hS3157.1 ta0 c3201
            rw [c3201] at p3171
            replace hF := hF.neg (by omega)
            replace hP := hP.neg (by omega)
            replace hF := hF.neg (by omega)
            replace hP := hP.neg (by omega)
            refine tr_istore_n dX12_readEvent_57 (by decide) (by decide) ?_
            refine tr_iload_n dX12_readEvent_58 rfl ?_
            refine q_iconst dX12_readEvent_59 (by decide) ?_
            intro v3203 h3204
            refine q_icmp_ne 69 dX12_readEvent_60 (by decide) (fun h3205 => ?_) (fun h3205 => ?_)
            · skip
              exfalso; omega
            · skip
              refine tr_iload_n dX12_readEvent_63 rfl ?_
              refine q_iconst dX12_readEvent_64 (by decide) ?_
              intro v3206 h3207
              refine q_iaddE dX12_readEvent_65 (by intros; omega) ?_
              intro v3208 h3209
              refine tr_goto 86 dX12_readEvent_66 (by decide) ?_
              refine tr_istore dX12_readEvent_86 (by decide) (by decide) ?_
              refine tr_aload_n dX12_readEvent_88 rfl ?_
              refine q_getI dX12_readEvent_89 fl12_99 (kR15 hS3157.1 ta0) c3189 ?_
              refine q_iconst dX12_readEvent_92 (by decide) ?_
              intro v3210 h3211
              refine q_icmp_ne 97 dX12_readEvent_93 (by decide) (fun h3212 => ?_) (fun h3212 => ?_)
              · skip
                refine tr_aload_n dX12_readEvent_97 rfl ?_
                refine tr_getR dX12_readEvent_98 fl12_188 (kR15 hS3157.1 ta0) d2 ?_
                refine q_getI dX12_readEvent_101 fl12_265 (kR14 hS3157.1 ta1) c3158 ?_
                refine tr_istore dX12_readEvent_104 (by decide) (by decide) ?_
                refine tr_aload_n dX12_readEvent_106 rfl ?_
                refine tr_getR dX12_readEvent_107 fl12_188 (kR15 hS3157.1 ta0) d2 ?_
                obtain ⟨a3213, d3214, ta3213⟩ := rf14_11 hW0 ta1
                refine tr_getR dX12_readEvent_110 fl12_274 (kR14 hS3157.1 ta1) d3214 ?_
                refine tr_iload dX12_readEvent_113 rfl ?_
                refine tr_iload_n dX12_readEvent_115 rfl ?_
                refine q_iastX dX12_readEvent_116 (kR54 hS3157.1 ta3213) (ti_in (nR54 hS3157.1 ta3213) (by omega) (by omega)) hS3157 ta3213 (by rfl) (hS3157.1.putK (m := a1) ta1 d3214 (by rw [c3158]; exact Int.le_of_eq (ti_nat (by omega)).symm)) ?_
                intro I3219 hS3220 e3221 f3222
                have c3223 : I3219 a1 2 = v37 := (f3222 _ _ (fun q => by have z := ta1; rw [q.1, ta3213] at z; exact absurd z (by decide))).trans c3158
                have c3224 : I3219 a0 13 = v3186 := (f3222 _ _ (fun q => by have z := ta0; rw [q.1, ta3213] at z; exact absurd z (by decide))).trans c3187
                have c3225 : I3219 a0 9 = v3188 := (f3222 _ _ (fun q => by have z := ta0; rw [q.1, ta3213] at z; exact absurd z (by decide))).trans c3189
                have c3226 : I3219 a0 10 = v3191 := (f3222 _ _ (fun q => by have z := ta0; rw [q.1, ta3213] at z; exact absurd z (by decide))).trans c3192
                have c3227 : I3219 a0 11 = v3194 := (f3222 _ _ (fun q => by have z := ta0; rw [q.1, ta3213] at z; exact absurd z (by decide))).trans c3195
                have c3228 : I3219 a0 12 = v3198 := (f3222 _ _ (fun q => by have z := ta0; rw [q.1, ta3213] at z; exact absurd z (by decide))).trans c3199
                have c3229 : I3219 a0 8 = v3200 := (f3222 _ _ (fun q => by have z := ta0; rw [q.1, ta3213] at z; exact absurd z (by decide))).trans c3201
                have hO3230 : FrO 14 a1 T I0 I3219 := hO3159.put f3222 ta3213 (Or.inl (by decide))
                have hM3231 : NmM I3219 R0 L3151 a1 gQ := NmM.kp1 hM3185 f3222 ta3213 rfl rfl hS3157.1 ta1
                refine tr_aload_n dX12_readEvent_117 rfl ?_
                refine tr_getR dX12_readEvent_118 fl12_188 (kR15 hS3220.1 ta0) d2 ?_
                obtain ⟨a3232, d3233, ta3232⟩ := rf14_12 hW0 ta1
                refine tr_getR dX12_readEvent_121 fl12_277 (kR14 hS3220.1 ta1) d3233 ?_
                refine tr_iload dX12_readEvent_124 rfl ?_
                refine tr_iload_n dX12_readEvent_126 rfl ?_
                refine q_iastX dX12_readEvent_127 (kR55 hS3220.1 ta3232) (ti_in (nR55 hS3220.1 ta3232) (by omega) (by omega)) hS3220 ta3232 (by rfl) (hS3220.1.putH (m := a1) ta1 d3233 (by rw [c3223]; exact Int.le_of_eq (ti_nat (by omega)).symm) (by omega)) ?_
                intro I3238 hS3239 e3240 f3241
                have c3242 : I3238 a1 2 = v37 := (f3241 _ _ (fun q => by have z := ta1; rw [q.1, ta3232] at z; exact absurd z (by decide))).trans c3223
                have c3243 : I3238 a0 13 = v3186 := (f3241 _ _ (fun q => by have z := ta0; rw [q.1, ta3232] at z; exact absurd z (by decide))).trans c3224
                have c3244 : I3238 a0 9 = v3188 := (f3241 _ _ (fun q => by have z := ta0; rw [q.1, ta3232] at z; exact absurd z (by decide))).trans c3225
                have c3245 : I3238 a0 10 = v3191 := (f3241 _ _ (fun q => by have z := ta0; rw [q.1, ta3232] at z; exact absurd z (by decide))).trans c3226
                have c3246 : I3238 a0 11 = v3194 := (f3241 _ _ (fun q => by have z := ta0; rw [q.1, ta3232] at z; exact absurd z (by decide))).trans c3227
                have c3247 : I3238 a0 12 = v3198 := (f3241 _ _ (fun q => by have z := ta0; rw [q.1, ta3232] at z; exact absurd z (by decide))).trans c3228
                have c3248 : I3238 a0 8 = v3200 := (f3241 _ _ (fun q => by have z := ta0; rw [q.1, ta3232] at z; exact absurd z (by decide))).trans c3229
                have c3249 : I3238 a3213 v37.toNatClampNeg = x1 := (f3241 _ _ (fun q => by have z := ta3213; rw [q.1, ta3232] at z; exact absurd z (by decide))).trans e3221
                have hO3250 : FrO 14 a1 T I0 I3238 := hO3230.put f3241 ta3232 (Or.inl (by decide))
                have hM3251 : NmM I3238 R0 L3151 a1 gQ := NmM.kp1 hM3231 f3241 ta3232 rfl rfl hS3220.1 ta1
                refine tr_aload_n dX12_readEvent_128 rfl ?_
                refine tr_getR dX12_readEvent_129 fl12_188 (kR15 hS3239.1 ta0) d2 ?_
                obtain ⟨a3252, d3253, ta3252⟩ := rf14_13 hW0 ta1
                refine tr_getR dX12_readEvent_132 fl12_280 (kR14 hS3239.1 ta1) d3253 ?_
                refine tr_iload dX12_readEvent_135 rfl ?_
                refine tr_iload_n dX12_readEvent_137 rfl ?_
                refine q_iast dX12_readEvent_138 (kR56 hS3239.1 ta3252) (ti_in (nR56 hS3239.1 ta3252) (by omega) (by omega)) hS3239 ta3252 (by show (0 : Int) ≤ v3154.toInt ∧ v3154.toInt ≤ (240 : Int); omega) rfl (by rfl) ?_
                intro I3254 hS3255 e3257 f3256
                have c3258 : I3254 a1 2 = v37 := (f3256 _ _ (fun q => by have z := ta1; rw [q.1, ta3252] at z; exact absurd z (by decide))).trans c3242
                have c3259 : I3254 a0 13 = v3186 := (f3256 _ _ (fun q => by have z := ta0; rw [q.1, ta3252] at z; exact absurd z (by decide))).trans c3243
                have c3260 : I3254 a0 9 = v3188 := (f3256 _ _ (fun q => by have z := ta0; rw [q.1, ta3252] at z; exact absurd z (by decide))).trans c3244
                have c3261 : I3254 a0 10 = v3191 := (f3256 _ _ (fun q => by have z := ta0; rw [q.1, ta3252] at z; exact absurd z (by decide))).trans c3245
                have c3262 : I3254 a0 11 = v3194 := (f3256 _ _ (fun q => by have z := ta0; rw [q.1, ta3252] at z; exact absurd z (by decide))).trans c3246
                have c3263 : I3254 a0 12 = v3198 := (f3256 _ _ (fun q => by have z := ta0; rw [q.1, ta3252] at z; exact absurd z (by decide))).trans c3247
                have c3264 : I3254 a0 8 = v3200 := (f3256 _ _ (fun q => by have z := ta0; rw [q.1, ta3252] at z; exact absurd z (by decide))).trans c3248
                have c3265 : I3254 a3213 v37.toNatClampNeg = x1 := (f3256 _ _ (fun q => by have z := ta3213; rw [q.1, ta3252] at z; exact absurd z (by decide))).trans c3249
                have c3266 : I3254 a3232 v37.toNatClampNeg = v3141 := (f3256 _ _ (fun q => by have z := ta3232; rw [q.1, ta3252] at z; exact absurd z (by decide))).trans e3240
                have hO3267 : FrO 14 a1 T I0 I3254 := hO3250.put f3256 ta3252 (Or.inl (by decide))
                have hM3268 : NmM I3254 R0 L3151 a1 gQ := NmM.kp1 hM3251 f3256 ta3252 rfl rfl hS3239.1 ta1
                refine tr_aload_n dX12_readEvent_139 rfl ?_
                refine tr_getR dX12_readEvent_140 fl12_188 (kR15 hS3255.1 ta0) d2 ?_
                obtain ⟨a3269, d3270, ta3269⟩ := rf14_14 hW0 ta1
                refine tr_getR dX12_readEvent_143 fl12_283 (kR14 hS3255.1 ta1) d3270 ?_
                refine tr_iload dX12_readEvent_146 rfl ?_
                refine tr_iload dX12_readEvent_148 rfl ?_
                refine q_iast dX12_readEvent_150 (kR57 hS3255.1 ta3269) (ti_in (nR57 hS3255.1 ta3269) (by omega) (by omega)) hS3255 ta3269 (by show (0 : Int) ≤ v3208.toInt ∧ v3208.toInt ≤ (240 : Int); omega) rfl (by rfl) ?_
                intro I3271 hS3272 e3274 f3273
                have c3275 : I3271 a1 2 = v37 := (f3273 _ _ (fun q => by have z := ta1; rw [q.1, ta3269] at z; exact absurd z (by decide))).trans c3258
                have c3276 : I3271 a0 13 = v3186 := (f3273 _ _ (fun q => by have z := ta0; rw [q.1, ta3269] at z; exact absurd z (by decide))).trans c3259
                have c3277 : I3271 a0 9 = v3188 := (f3273 _ _ (fun q => by have z := ta0; rw [q.1, ta3269] at z; exact absurd z (by decide))).trans c3260
                have c3278 : I3271 a0 10 = v3191 := (f3273 _ _ (fun q => by have z := ta0; rw [q.1, ta3269] at z; exact absurd z (by decide))).trans c3261
                have c3279 : I3271 a0 11 = v3194 := (f3273 _ _ (fun q => by have z := ta0; rw [q.1, ta3269] at z; exact absurd z (by decide))).trans c3262
                have c3280 : I3271 a0 12 = v3198 := (f3273 _ _ (fun q => by have z := ta0; rw [q.1, ta3269] at z; exact absurd z (by decide))).trans c3263
                have c3281 : I3271 a0 8 = v3200 := (f3273 _ _ (fun q => by have z := ta0; rw [q.1, ta3269] at z; exact absurd z (by decide))).trans c3264
                have c3282 : I3271 a3213 v37.toNatClampNeg = x1 := (f3273 _ _ (fun q => by have z := ta3213; rw [q.1, ta3269] at z; exact absurd z (by decide))).trans c3265
                have c3283 : I3271 a3232 v37.toNatClampNeg = v3141 := (f3273 _ _ (fun q => by have z := ta3232; rw [q.1, ta3269] at z; exact absurd z (by decide))).trans c3266
                have hO3284 : FrO 14 a1 T I0 I3271 := hO3267.put f3273 ta3269 (Or.inl (by decide))
                have hM3285 : NmM I3271 R0 L3151 a1 gQ := NmM.kp1 hM3268 f3273 ta3269 rfl rfl hS3255.1 ta1
                refine tr_aload_n dX12_readEvent_151 rfl ?_
                refine tr_getR dX12_readEvent_152 fl12_188 (kR15 hS3272.1 ta0) d2 ?_
                refine tr_dup dX12_readEvent_155 rfl ?_
                refine q_getI dX12_readEvent_156 fl12_265 (kR14 hS3272.1 ta1) c3275 ?_
                refine q_iconst dX12_readEvent_159 (by decide) ?_
                intro v3286 h3287
                refine q_iaddE dX12_readEvent_160 (by intros; omega) ?_
                intro v3288 h3289
                refine q_putX dX12_readEvent_161 fl12_265 (kR14 hS3272.1 ta1) (Or.inl rfl) hS3272 ta1 (by decide +kernel) (hS3272.1.putE (i := v37.toNatClampNeg) ta1 d3214 d3233 (by rw [c3275]; exact (ti_nat (by omega)).symm) (by rw [c3275]; omega) (by omega) (by rw [c3282, c3283]; omega)) ?_
                intro I3290 hS3291 e3292 f3293
                have c3294 : I3290 a0 13 = v3186 := (f3293 _ _ (fun q => absurd q.2 (by decide))).trans c3276
                have c3295 : I3290 a0 9 = v3188 := (f3293 _ _ (fun q => absurd q.2 (by decide))).trans c3277
                have c3296 : I3290 a0 10 = v3191 := (f3293 _ _ (fun q => absurd q.2 (by decide))).trans c3278
                have c3297 : I3290 a0 11 = v3194 := (f3293 _ _ (fun q => absurd q.2 (by decide))).trans c3279
                have c3298 : I3290 a0 12 = v3198 := (f3293 _ _ (fun q => absurd q.2 (by decide))).trans c3280
                have c3299 : I3290 a0 8 = v3200 := (f3293 _ _ (fun q => absurd q.2 (by decide))).trans c3281
                have c3300 : I3290 a3213 v37.toNatClampNeg = x1 := (f3293 _ _ (fun q => by have z := ta3213; rw [q.1, ta1] at z; exact absurd z (by decide))).trans c3282
                have c3301 : I3290 a3232 v37.toNatClampNeg = v3141 := (f3293 _ _ (fun q => by have z := ta3232; rw [q.1, ta1] at z; exact absurd z (by decide))).trans c3283
                have hO3302 : FrO 14 a1 T I0 I3290 := hO3284.put f3293 ta1 (Or.inr rfl)
                have hM3303 : NmM I3290 R0 L3151 a1 gQ := NmM.kp1 hM3285 f3293 ta1 rfl rfl hS3272.1 ta1
                have eF := hF.eq
                have eP := hP.eq
                have es3304 := evS_c4 (B := gB) (Q := gQ) (k := srt gB gs) (s := (tkN gB gs)) (by omega)
                obtain ⟨v3305, c3306⟩ : ∃ v, I3290 a0 14 = v := ⟨_, rfl⟩
                exact tr_vret hZ dX12_readEvent_164 rfl (by decide) (by decide) ⟨rfl, rfl, rfl, rfl, rfl, hS3291, (fun dr hd => (Option.some.inj (d2.symm.trans hd)) ▸ hO3302), (Or.inl ⟨(by (try rw [w3125]); (try rw [es3304]); first | done | with_reducible assumption | omega), (fun q0 z0 => by obtain rfl := Option.some.inj ((d2).symm.trans z0); (try rw [w3125]); (try rw [es3304]); (try rw [((hS3291.cell ta1 (by decide +kernel)).trans c30)]); first | done | with_reducible assumption | omega), (fun q0 z0 => by obtain rfl := Option.some.inj ((d2).symm.trans z0); (try rw [w3125]); (try rw [es3304]); (try rw [((hS3291.cell ta1 (by decide +kernel)).trans c34)]); first | done | with_reducible assumption | omega), (fun q0 z0 => by obtain rfl := Option.some.inj ((d2).symm.trans z0); (try rw [w3125]); (try rw [es3304]); (try rw [e3292]); first | done | with_reducible assumption | omega), (fun q0 z0 => by obtain rfl := Option.some.inj ((d2).symm.trans z0); (try rw [w3125]); (try rw [es3304]); (try rw [((hS3291.cell ta1 (by decide +kernel)).trans c42)]); first | done | with_reducible assumption | omega), (fun q0 z0 => by obtain rfl := Option.some.inj ((d2).symm.trans z0); (try rw [w3125]); (try rw [es3304]); (try rw [((hS3291.cell ta1 (by decide +kernel)).trans c46)]); first | done | with_reducible assumption | omega), (fun q0 z0 => by obtain rfl := Option.some.inj ((d2).symm.trans z0); (try rw [w3125]); (try rw [es3304]); (try rw [((hS3291.cell ta1 (by decide +kernel)).trans c50)]); first | done | with_reducible assumption | omega), (fun q0 z0 => by obtain rfl := Option.some.inj ((d2).symm.trans z0); (try rw [w3125]); (try rw [es3304]); (try rw [((hS3291.cell ta1 (by decide +kernel)).trans c54)]); first | done | with_reducible assumption | omega), (fun q0 z0 => by obtain rfl := Option.some.inj ((d2).symm.trans z0); (try rw [w3125]); (try rw [es3304]); (try rw [((hS3291.cell ta1 (by decide +kernel)).trans c58)]); first | done | with_reducible assumption | omega), (by (try rw [w3125]); (try rw [es3304]); (try rw [c3294]); (try rw [c65]); first | done | with_reducible assumption | omega), (by (try rw [w3125]); (try rw [es3304]); (try rw [c3295]); first | done | with_reducible assumption | omega), (by (try rw [w3125]); (try rw [es3304]); (try rw [c3295]); first | done | with_reducible assumption | omega), (by (try rw [w3125]); (try rw [es3304]); (try rw [c3296]); first | done | with_reducible assumption | omega), (by (try rw [w3125]); (try rw [es3304]); (try rw [c3297]); first | done | with_reducible assumption | omega), (by (try rw [w3125]); (try rw [es3304]); (try rw [c3197]); first | done | assumption), (by (try rw [w3125]); (try rw [es3304]); (try rw [c3298]); first | done | assumption), (by (try rw [w3125]); (try rw [es3304]); (try rw [c3299]); first | done | assumption), hL3184, (fun b hb => (Option.some.inj (d2.symm.trans hb)) ▸ NmM.ln (NmM.bd (k := srt gB gs) hM3303 (by omega) (by omega)) rfl), trivial⟩), trivial⟩
              · skip
                exfalso; omega
          · skip
            obtain ⟨v3307, c3308⟩ : ∃ v, I3149 a0 9 = v := ⟨_, rfl⟩
            have b3309 := iv15_9 hS3157.1 ta0 c3308
            rw [c3308] at p3175
            obtain ⟨v3310, c3311⟩ : ∃ v, I3149 a0 13 = v := ⟨_, rfl⟩
            rw [c3311] at p3176
            obtain ⟨v3312, c3313⟩ : ∃ v, I3149 a0 14 = v := ⟨_, rfl⟩
            rw [c3313] at p3177
            replace hF := hF.pos (by omega)
            replace hP := hP.pos (by omega)
            refine tr_istore_n dX12_readEvent_57 (by decide) (by decide) ?_
            refine tr_iload_n dX12_readEvent_58 rfl ?_
            refine q_iconst dX12_readEvent_59 (by decide) ?_
            intro v3314 h3315
            refine q_icmp_ne 69 dX12_readEvent_60 (by decide) (fun h3316 => ?_) (fun h3316 => ?_)
            · skip
              exfalso; omega
            · skip
              refine tr_iload_n dX12_readEvent_63 rfl ?_
              refine q_iconst dX12_readEvent_64 (by decide) ?_
              intro v3317 h3318
              refine q_iaddE dX12_readEvent_65 (by intros; omega) ?_
              intro v3319 h3320
              refine tr_goto 86 dX12_readEvent_66 (by decide) ?_
              refine tr_istore dX12_readEvent_86 (by decide) (by decide) ?_
              refine tr_aload_n dX12_readEvent_88 rfl ?_
              refine q_getI dX12_readEvent_89 fl12_99 (kR15 hS3157.1 ta0) c3308 ?_
              refine q_iconst dX12_readEvent_92 (by decide) ?_
              intro v3321 h3322
              refine q_icmp_ne 97 dX12_readEvent_93 (by decide) (fun h3323 => ?_) (fun h3323 => ?_)
              · skip
                exfalso; omega
              · skip
                have eF := hF.eq
                have eP := hP.eq
                obtain ⟨v3324, c3325⟩ : ∃ v, I3149 a0 10 = v := ⟨_, rfl⟩
                have b3326 := iv15_10 hS3157.1 ta0 c3325
                obtain ⟨v3327, c3328⟩ : ∃ v, I3149 a0 11 = v := ⟨_, rfl⟩
                obtain ⟨y3329, c3330⟩ : ∃ v, L3151 a0 15 = v := ⟨_, rfl⟩
                obtain ⟨v3331, c3332⟩ : ∃ v, I3149 a0 12 = v := ⟨_, rfl⟩
                obtain ⟨v3333, c3334⟩ : ∃ v, I3149 a0 8 = v := ⟨_, rfl⟩
                have b3335 := iv15_8 hS3157.1 ta0 c3334
                exact tr_vret hZ dX12_readEvent_96 rfl (by decide) (by decide) ⟨rfl, rfl, rfl, rfl, rfl, hS3157, (fun dr hd => (Option.some.inj (d2.symm.trans hd)) ▸ hO3159), (Or.inr (⟨(by (try rw [w3125]); first | done | with_reducible assumption | omega), (by (try rw [w3125]); (try rw [c3308]); first | done | with_reducible assumption | omega), (by (try rw [w3125]); (try rw [c3311]); first | done | with_reducible assumption | omega), (by (try rw [w3125]); (try rw [c3313]); first | done | with_reducible assumption | omega), trivial⟩)), trivial⟩
          · skip
            obtain ⟨v3336, c3337⟩ : ∃ v, I3149 a0 9 = v := ⟨_, rfl⟩
            have b3338 := iv15_9 hS3157.1 ta0 c3337
            rw [c3337] at p3181
            obtain ⟨v3339, c3340⟩ : ∃ v, I3149 a0 13 = v := ⟨_, rfl⟩
            rw [c3340] at p3182
            obtain ⟨v3341, c3342⟩ : ∃ v, I3149 a0 14 = v := ⟨_, rfl⟩
            rw [c3342] at p3183
            replace hF := hF.neg (by omega)
            replace hP := hP.neg (by omega)
            replace hF := hF.pos (by omega)
            replace hP := hP.pos (by omega)
            refine tr_istore_n dX12_readEvent_57 (by decide) (by decide) ?_
            refine tr_iload_n dX12_readEvent_58 rfl ?_
            refine q_iconst dX12_readEvent_59 (by decide) ?_
            intro v3343 h3344
            refine q_icmp_ne 69 dX12_readEvent_60 (by decide) (fun h3345 => ?_) (fun h3345 => ?_)
            · skip
              exfalso; omega
            · skip
              refine tr_iload_n dX12_readEvent_63 rfl ?_
              refine q_iconst dX12_readEvent_64 (by decide) ?_
              intro v3346 h3347
              refine q_iaddE dX12_readEvent_65 (by intros; omega) ?_
              intro v3348 h3349
              refine tr_goto 86 dX12_readEvent_66 (by decide) ?_
              refine tr_istore dX12_readEvent_86 (by decide) (by decide) ?_
              refine tr_aload_n dX12_readEvent_88 rfl ?_
              refine q_getI dX12_readEvent_89 fl12_99 (kR15 hS3157.1 ta0) c3337 ?_
              refine q_iconst dX12_readEvent_92 (by decide) ?_
              intro v3350 h3351
              refine q_icmp_ne 97 dX12_readEvent_93 (by decide) (fun h3352 => ?_) (fun h3352 => ?_)
              · skip
                exfalso; omega
              · skip
                have eF := hF.eq
                have eP := hP.eq
                obtain ⟨v3353, c3354⟩ : ∃ v, I3149 a0 10 = v := ⟨_, rfl⟩
                have b3355 := iv15_10 hS3157.1 ta0 c3354
                obtain ⟨v3356, c3357⟩ : ∃ v, I3149 a0 11 = v := ⟨_, rfl⟩
                obtain ⟨y3358, c3359⟩ : ∃ v, L3151 a0 15 = v := ⟨_, rfl⟩
                obtain ⟨v3360, c3361⟩ : ∃ v, I3149 a0 12 = v := ⟨_, rfl⟩
                obtain ⟨v3362, c3363⟩ : ∃ v, I3149 a0 8 = v := ⟨_, rfl⟩
                have b3364 := iv15_8 hS3157.1 ta0 c3363
                exact tr_vret hZ dX12_readEvent_96 rfl (by decide) (by decide) ⟨rfl, rfl, rfl, rfl, rfl, hS3157, (fun dr hd => (Option.some.inj (d2.symm.trans hd)) ▸ hO3159), (Or.inr (⟨(by (try rw [w3125]); first | done | with_reducible assumption | omega), (by (try rw [w3125]); (try rw [c3337]); first | done | with_reducible assumption | omega), (by (try rw [w3125]); (try rw [c3340]); first | done | with_reducible assumption | omega), (by (try rw [w3125]); (try rw [c3342]); first | done | with_reducible assumption | omega), trivial⟩)), trivial⟩
        · skip
          exfalso; omega
    · skip
      obtain ⟨v3365, c3366⟩ : ∃ v, I3072 a0 9 = v := ⟨_, rfl⟩
      have b3367 := iv15_9 hS3080.1 ta0 c3366
      rw [c3366] at p3095
      obtain ⟨v3368, c3369⟩ : ∃ v, I3072 a0 13 = v := ⟨_, rfl⟩
      rw [c3369] at p3096
      obtain ⟨v3370, c3371⟩ : ∃ v, I3072 a0 14 = v := ⟨_, rfl⟩
      rw [c3371] at p3097
      have p3372 := p61
      unfold Q7M at p3372
      replace hF := hF.pos (by omega)
      replace hP := hP.pos (by omega)
      clear p3372
      refine tr_iload_n dX12_readEvent_13 rfl ?_
      refine q_iconst dX12_readEvent_14 (by decide) ?_
      intro v3373 h3374
      refine q_icmp_eq 23 dX12_readEvent_15 (by decide) (fun h3375 => ?_) (fun h3375 => ?_)
      · skip
        exfalso; omega
      · skip
        refine tr_iload_n dX12_readEvent_18 rfl ?_
        refine q_iconst dX12_readEvent_19 (by decide) ?_
        intro v3376 h3377
        refine q_icmp_ne 40 dX12_readEvent_20 (by decide) (fun h3378 => ?_) (fun h3378 => ?_)
        · skip
          refine q_bipush dX12_readEvent_40 (by decide +kernel) ?_
          intro v3379 h3380
          refine tr_istore_n dX12_readEvent_42 (by decide) (by decide) ?_
          refine tr_aload_n dX12_readEvent_43 rfl ?_
          refine q_iconst dX12_readEvent_44 (by decide) ?_
          intro v3381 h3382
          refine tr_aload_n dX12_readEvent_45 rfl ?_
          refine tr_getR dX12_readEvent_46 fl12_188 (kR15 hS3080.1 ta0) d2 ?_
          refine q_getI dX12_readEvent_49 fl12_192 (kR14 hS3080.1 ta1) ((hS3080.cell ta1 (by decide +kernel)).trans c30) ?_
          refine q_iconst dX12_readEvent_52 (by decide) ?_
          intro v3383 h3384
          refine q_isubE dX12_readEvent_53 (by intros; omega) ?_
          intro v3385 h3386
          refine q_callVi hE (M' := mX12_readWhole) (as := [_, _]) dX12_readEvent_54 lk12_161 inX12_readWhole seX12_readWhole myX12_readWhole (by decide) ⟨by decide, by decide⟩ rfl (kR15 hS3080.1 ta0) (Nat.le_of_ble_eq_true rfl) rfl rfl (by decide) (by decide) (k_X12_readWhole hS3080.1 ta0) ?_
          rintro v3391 cn' K' N' I3387 R3388 L3389 ⟨rfl, rfl, rfl, rfl, g3390, p3392, w3393, -⟩
          have hS3394 := hS3080.tr g3390 (by decide +kernel) (by decide +kernel)
          have c3395 : I3387 a1 2 = v37 := (g3390.cell ta1 (by decide +kernel)).trans c3081
          have b3396 : 0 ≤ v3391.toInt ∧ v3391.toInt ≤ 239 := by omega
          clear p3392
          have hO3397 : FrO 14 a1 T I0 I3387 := hO3082.st g3390 (by decide +kernel)
          have ov3398 := w3393.over (by rw [c3366]; omega)
          obtain ⟨v3399, c3400⟩ : ∃ v, I3387 a0 9 = v := ⟨_, rfl⟩
          have b3401 := iv15_9 hS3394.1 ta0 c3400
          obtain ⟨v3402, c3403⟩ : ∃ v, I3387 a0 13 = v := ⟨_, rfl⟩
          obtain ⟨v3404, c3405⟩ : ∃ v, I3387 a0 14 = v := ⟨_, rfl⟩
          (try rw [c3400] at ov3398)
          (try rw [c3403] at ov3398)
          (try rw [c3405] at ov3398)
          (try rw [c3366] at ov3398)
          (try rw [c3369] at ov3398)
          (try rw [c3371] at ov3398)
          refine tr_istore_n dX12_readEvent_57 (by decide) (by decide) ?_
          refine tr_iload_n dX12_readEvent_58 rfl ?_
          refine q_iconst dX12_readEvent_59 (by decide) ?_
          intro v3406 h3407
          refine q_icmp_ne 69 dX12_readEvent_60 (by decide) (fun h3408 => ?_) (fun h3408 => ?_)
          · skip
            exfalso; omega
          · skip
            refine tr_iload_n dX12_readEvent_63 rfl ?_
            refine q_iconst dX12_readEvent_64 (by decide) ?_
            intro v3409 h3410
            refine q_iaddE dX12_readEvent_65 (by intros; omega) ?_
            intro v3411 h3412
            refine tr_goto 86 dX12_readEvent_66 (by decide) ?_
            refine tr_istore dX12_readEvent_86 (by decide) (by decide) ?_
            refine tr_aload_n dX12_readEvent_88 rfl ?_
            refine q_getI dX12_readEvent_89 fl12_99 (kR15 hS3394.1 ta0) c3400 ?_
            refine q_iconst dX12_readEvent_92 (by decide) ?_
            intro v3413 h3414
            refine q_icmp_ne 97 dX12_readEvent_93 (by decide) (fun h3415 => ?_) (fun h3415 => ?_)
            · skip
              exfalso; omega
            · skip
              have eF := hF.eq
              have eP := hP.eq
              obtain ⟨v3416, c3417⟩ : ∃ v, I3387 a0 10 = v := ⟨_, rfl⟩
              have b3418 := iv15_10 hS3394.1 ta0 c3417
              obtain ⟨v3419, c3420⟩ : ∃ v, I3387 a0 11 = v := ⟨_, rfl⟩
              obtain ⟨y3421, c3422⟩ : ∃ v, L3389 a0 15 = v := ⟨_, rfl⟩
              obtain ⟨v3423, c3424⟩ : ∃ v, I3387 a0 12 = v := ⟨_, rfl⟩
              obtain ⟨v3425, c3426⟩ : ∃ v, I3387 a0 8 = v := ⟨_, rfl⟩
              have b3427 := iv15_8 hS3394.1 ta0 c3426
              exact tr_vret hZ dX12_readEvent_96 rfl (by decide) (by decide) ⟨rfl, rfl, rfl, rfl, rfl, hS3394, (fun dr hd => (Option.some.inj (d2.symm.trans hd)) ▸ hO3397), (Or.inr (⟨(by first | done | with_reducible assumption | omega), (by (try rw [c3400]); first | done | with_reducible assumption | omega), (by (try rw [c3403]); first | done | with_reducible assumption | omega), (by (try rw [c3405]); first | done | with_reducible assumption | omega), trivial⟩)), trivial⟩
        · skip
          exfalso; omega
    · skip
      obtain ⟨v3428, c3429⟩ : ∃ v, I3072 a0 9 = v := ⟨_, rfl⟩
      have b3430 := iv15_9 hS3080.1 ta0 c3429
      rw [c3429] at p3100
      obtain ⟨v3431, c3432⟩ : ∃ v, I3072 a0 13 = v := ⟨_, rfl⟩
      rw [c3432] at p3101
      obtain ⟨v3433, c3434⟩ : ∃ v, I3072 a0 14 = v := ⟨_, rfl⟩
      rw [c3434] at p3102
      have p3435 := p61
      unfold Q7M at p3435
      replace hF := hF.neg (by omega)
      replace hP := hP.neg (by omega)
      replace hF := hF.pos (by omega)
      replace hP := hP.pos (by omega)
      clear p3435
      refine tr_iload_n dX12_readEvent_13 rfl ?_
      refine q_iconst dX12_readEvent_14 (by decide) ?_
      intro v3436 h3437
      refine q_icmp_eq 23 dX12_readEvent_15 (by decide) (fun h3438 => ?_) (fun h3438 => ?_)
      · skip
        exfalso; omega
      · skip
        refine tr_iload_n dX12_readEvent_18 rfl ?_
        refine q_iconst dX12_readEvent_19 (by decide) ?_
        intro v3439 h3440
        refine q_icmp_ne 40 dX12_readEvent_20 (by decide) (fun h3441 => ?_) (fun h3441 => ?_)
        · skip
          refine q_bipush dX12_readEvent_40 (by decide +kernel) ?_
          intro v3442 h3443
          refine tr_istore_n dX12_readEvent_42 (by decide) (by decide) ?_
          refine tr_aload_n dX12_readEvent_43 rfl ?_
          refine q_iconst dX12_readEvent_44 (by decide) ?_
          intro v3444 h3445
          refine tr_aload_n dX12_readEvent_45 rfl ?_
          refine tr_getR dX12_readEvent_46 fl12_188 (kR15 hS3080.1 ta0) d2 ?_
          refine q_getI dX12_readEvent_49 fl12_192 (kR14 hS3080.1 ta1) ((hS3080.cell ta1 (by decide +kernel)).trans c30) ?_
          refine q_iconst dX12_readEvent_52 (by decide) ?_
          intro v3446 h3447
          refine q_isubE dX12_readEvent_53 (by intros; omega) ?_
          intro v3448 h3449
          refine q_callVi hE (M' := mX12_readWhole) (as := [_, _]) dX12_readEvent_54 lk12_161 inX12_readWhole seX12_readWhole myX12_readWhole (by decide) ⟨by decide, by decide⟩ rfl (kR15 hS3080.1 ta0) (Nat.le_of_ble_eq_true rfl) rfl rfl (by decide) (by decide) (k_X12_readWhole hS3080.1 ta0) ?_
          rintro v3454 cn' K' N' I3450 R3451 L3452 ⟨rfl, rfl, rfl, rfl, g3453, p3455, w3456, -⟩
          have hS3457 := hS3080.tr g3453 (by decide +kernel) (by decide +kernel)
          have c3458 : I3450 a1 2 = v37 := (g3453.cell ta1 (by decide +kernel)).trans c3081
          have b3459 : 0 ≤ v3454.toInt ∧ v3454.toInt ≤ 0 := by omega
          clear p3455
          have hO3460 : FrO 14 a1 T I0 I3450 := hO3082.st g3453 (by decide +kernel)
          have ov3461 := w3456.over (by rw [c3429]; omega)
          obtain ⟨v3462, c3463⟩ : ∃ v, I3450 a0 9 = v := ⟨_, rfl⟩
          have b3464 := iv15_9 hS3457.1 ta0 c3463
          obtain ⟨v3465, c3466⟩ : ∃ v, I3450 a0 13 = v := ⟨_, rfl⟩
          obtain ⟨v3467, c3468⟩ : ∃ v, I3450 a0 14 = v := ⟨_, rfl⟩
          (try rw [c3463] at ov3461)
          (try rw [c3466] at ov3461)
          (try rw [c3468] at ov3461)
          (try rw [c3429] at ov3461)
          (try rw [c3432] at ov3461)
          (try rw [c3434] at ov3461)
          refine tr_istore_n dX12_readEvent_57 (by decide) (by decide) ?_
          refine tr_iload_n dX12_readEvent_58 rfl ?_
          refine q_iconst dX12_readEvent_59 (by decide) ?_
          intro v3469 h3470
          refine q_icmp_ne 69 dX12_readEvent_60 (by decide) (fun h3471 => ?_) (fun h3471 => ?_)
          · skip
            exfalso; omega
          · skip
            refine tr_iload_n dX12_readEvent_63 rfl ?_
            refine q_iconst dX12_readEvent_64 (by decide) ?_
            intro v3472 h3473
            refine q_iaddE dX12_readEvent_65 (by intros; omega) ?_
            intro v3474 h3475
            refine tr_goto 86 dX12_readEvent_66 (by decide) ?_
            refine tr_istore dX12_readEvent_86 (by decide) (by decide) ?_
            refine tr_aload_n dX12_readEvent_88 rfl ?_
            refine q_getI dX12_readEvent_89 fl12_99 (kR15 hS3457.1 ta0) c3463 ?_
            refine q_iconst dX12_readEvent_92 (by decide) ?_
            intro v3476 h3477
            refine q_icmp_ne 97 dX12_readEvent_93 (by decide) (fun h3478 => ?_) (fun h3478 => ?_)
            · skip
              exfalso; omega
            · skip
              have eF := hF.eq
              have eP := hP.eq
              obtain ⟨v3479, c3480⟩ : ∃ v, I3450 a0 10 = v := ⟨_, rfl⟩
              have b3481 := iv15_10 hS3457.1 ta0 c3480
              obtain ⟨v3482, c3483⟩ : ∃ v, I3450 a0 11 = v := ⟨_, rfl⟩
              obtain ⟨y3484, c3485⟩ : ∃ v, L3452 a0 15 = v := ⟨_, rfl⟩
              obtain ⟨v3486, c3487⟩ : ∃ v, I3450 a0 12 = v := ⟨_, rfl⟩
              obtain ⟨v3488, c3489⟩ : ∃ v, I3450 a0 8 = v := ⟨_, rfl⟩
              have b3490 := iv15_8 hS3457.1 ta0 c3489
              exact tr_vret hZ dX12_readEvent_96 rfl (by decide) (by decide) ⟨rfl, rfl, rfl, rfl, rfl, hS3457, (fun dr hd => (Option.some.inj (d2.symm.trans hd)) ▸ hO3460), (Or.inr (⟨(by first | done | with_reducible assumption | omega), (by (try rw [c3463]); first | done | with_reducible assumption | omega), (by (try rw [c3466]); first | done | with_reducible assumption | omega), (by (try rw [c3468]); first | done | with_reducible assumption | omega), trivial⟩)), trivial⟩
        · skip
          exfalso; omega
def wik_X12_readCheese : List Nat := [899, 903, 968, 969, 970, 971, 972, 973, 974, 3775, 4031, 4799, 4863]
def wrk_X12_readCheese : List Nat := []
def wlk_X12_readCheese : List Nat := [975, 4735]
set_option maxHeartbeats 4000000 in
theorem fk_X12_readCheese {l : Launch} {T : Nat → Nat} {cn : Nat} {K N : Nat → Nat} {I0 : cz_I} {R0 : cz_R} {L0 : cz_L} (hW0 : Wf T cn K N I0 R0 0) (gB : cz_B) (gs : Int) (gQ : Nat → Int) {a0 : Nat} (ta0 : T a0 = 15) (hT : ∀ t, R0 a0 5 = some t → Tx I0 t gB) (hN : ∀ b, R0 a0 4 = some b → NmM I0 R0 L0 b gQ) (pre0 : (I0 a0 9).toInt = (tkM gB gs)) (pre1 : (I0 a0 9).toInt ≤ 4) (pre2 : (I0 a0 10).toInt = (tkS gB gs)) (pre3 : (I0 a0 11).toInt = (tkG gB gs)) (pre4 : (AtW ((tkK gB gs)) ((L0 a0 15).toInt) ((tkW gB gs)))) (pre5 : (AtV ((tkK gB gs)) ((I0 a0 12).toInt) ((tkV gB gs)))) (pre6 : (AtN ((tkK gB gs)) ((I0 a0 8).toInt) ((tkN gB gs)))) (pre7 : (I0 a0 7).toInt = (gB.2)) (pre8 : ∀ b1, R0 a0 4 = some b1 → (I0 b1 0).toInt = (gQ 0)) (pre9 : ∀ b1, R0 a0 4 = some b1 → (I0 b1 1).toInt = (gQ 1)) (pre10 : ∀ b1, R0 a0 4 = some b1 → (I0 b1 2).toInt = (gQ 2)) (pre11 : ∀ b1, R0 a0 4 = some b1 → (I0 b1 3).toInt = (gQ 3)) (pre12 : ∀ b1, R0 a0 4 = some b1 → (I0 b1 4).toInt = (gQ 4)) (pre13 : ∀ b1, R0 a0 4 = some b1 → (I0 b1 5).toInt = (gQ 5)) (pre14 : ∀ b1, R0 a0 4 = some b1 → (I0 b1 6).toInt = (gQ 6)) (pre15 : ∀ b1, R0 a0 4 = some b1 → (I0 b1 9).toInt = (gQ 8)) (pre16 : (Q7M ((gQ 0)) ((gQ 7)))) (pre17 : (tkK gB gs) = 1) (pre18 : (srt gB gs) = 5) (nn4 : ∃ b, R0 a0 4 = some b) : ConE l mX12_readCheese [.ref a0] cn K N I0 R0 L0 (ca_v (fun cn' K' N' I' R' L' => cn = cn' ∧ K = K' ∧ N = N' ∧ R0 = R' ∧ St T cn K N 0 wik_X12_readCheese wrk_X12_readCheese I0 R0 I' R0 ∧ (∀ dr, R0 a0 4 = some dr → FrO 14 dr T I0 I') ∧ ((((lnF gB gQ gs) = 0) ∧ (∀ b1, R0 a0 4 = some b1 → (I' b1 0).toInt = (lnQ gB gQ gs 0)) ∧ (∀ b1, R0 a0 4 = some b1 → (I' b1 1).toInt = (lnQ gB gQ gs 1)) ∧ (∀ b1, R0 a0 4 = some b1 → (I' b1 2).toInt = (lnQ gB gQ gs 2)) ∧ (∀ b1, R0 a0 4 = some b1 → (I' b1 3).toInt = (lnQ gB gQ gs 3)) ∧ (∀ b1, R0 a0 4 = some b1 → (I' b1 4).toInt = (lnQ gB gQ gs 4)) ∧ (∀ b1, R0 a0 4 = some b1 → (I' b1 5).toInt = (lnQ gB gQ gs 5)) ∧ (∀ b1, R0 a0 4 = some b1 → (I' b1 6).toInt = (lnQ gB gQ gs 6)) ∧ (∀ b1, R0 a0 4 = some b1 → (I' b1 9).toInt = (lnQ gB gQ gs 8)) ∧ ((I' a0 13).toInt = (I0 a0 13).toInt) ∧ ((I' a0 9).toInt = (tkM gB (lnS gB gQ gs))) ∧ ((I' a0 9).toInt ≤ 4) ∧ ((I' a0 10).toInt = (tkS gB (lnS gB gQ gs))) ∧ ((I' a0 11).toInt = (tkG gB (lnS gB gQ gs))) ∧ ((AtW ((tkK gB (lnS gB gQ gs))) ((L' a0 15).toInt) ((tkW gB (lnS gB gQ gs))))) ∧ ((AtV ((tkK gB (lnS gB gQ gs))) ((I' a0 12).toInt) ((tkV gB (lnS gB gQ gs))))) ∧ ((AtN ((tkK gB (lnS gB gQ gs))) ((I' a0 8).toInt) ((tkN gB (lnS gB gQ gs))))) ∧ LgS T wlk_X12_readCheese L0 L' ∧ (∀ b, R0 a0 4 = some b → NmM I' R0 L' b (lnQ gB gQ gs)) ∧ True) ∨ (((lnF gB gQ gs) ≠ 0) ∧ ((I' a0 9).toInt = 5) ∧ ((I' a0 13).toInt = (lnF gB gQ gs)) ∧ ((I' a0 14).toInt = (lnP gB gQ gs)) ∧ True)) ∧ True)) := by
  refine ConE.of (by decide +kernel) rfl (Nat.le_of_ble_eq_true rfl) rfl (fun X hX hZ hE => ?_)
  subst hX
  have hS0 : St T cn K N 0 wik_X12_readCheese wrk_X12_readCheese I0 R0 I0 R0 := St.rf0 hW0
  have hL0 : LgS T wlk_X12_readCheese L0 L0 := LgS.rf0
  obtain ⟨a1, d2⟩ := nn4
  have ta1 : T a1 = 14 := hW0.rsN ta0 rfl d2
  obtain ⟨v3, c4⟩ : ∃ v, I0 a0 9 = v := ⟨_, rfl⟩
  have b5 := iv15_9 hS0.1 ta0 c4
  have p6 := pre0
  rw [c4] at p6
  have p7 := pre1
  rw [c4] at p7
  obtain ⟨v8, c9⟩ : ∃ v, I0 a0 10 = v := ⟨_, rfl⟩
  have b10 := iv15_10 hS0.1 ta0 c9
  have p11 := pre2
  rw [c9] at p11
  obtain ⟨v12, c13⟩ : ∃ v, I0 a0 11 = v := ⟨_, rfl⟩
  have p14 := pre3
  rw [c13] at p14
  obtain ⟨y15, c16⟩ : ∃ v, L0 a0 15 = v := ⟨_, rfl⟩
  have p17 := pre4
  rw [c16] at p17
  obtain ⟨v18, c19⟩ : ∃ v, I0 a0 12 = v := ⟨_, rfl⟩
  have p20 := pre5
  rw [c19] at p20
  obtain ⟨v21, c22⟩ : ∃ v, I0 a0 8 = v := ⟨_, rfl⟩
  have b23 := iv15_8 hS0.1 ta0 c22
  have p24 := pre6
  rw [c22] at p24
  obtain ⟨v25, c26⟩ : ∃ v, I0 a0 7 = v := ⟨_, rfl⟩
  have b27 := iv15_7 hW0 ta0 c26
  have p28 := pre7
  rw [c26] at p28
  obtain ⟨v29, c30⟩ : ∃ v, I0 a1 0 = v := ⟨_, rfl⟩
  have b31 := iv14_0 hW0 ta1 c30
  have p32 := pre8 _ d2
  rw [c30] at p32
  obtain ⟨v33, c34⟩ : ∃ v, I0 a1 1 = v := ⟨_, rfl⟩
  have b35 := iv14_1 hW0 ta1 c34
  have p36 := pre9 _ d2
  rw [c34] at p36
  obtain ⟨v37, c38⟩ : ∃ v, I0 a1 2 = v := ⟨_, rfl⟩
  have b39 := iv14_2 hW0 ta1 c38
  have p40 := pre10 _ d2
  rw [c38] at p40
  obtain ⟨v41, c42⟩ : ∃ v, I0 a1 3 = v := ⟨_, rfl⟩
  have b43 := iv14_3 hS0.1 ta1 c42
  have p44 := pre11 _ d2
  rw [c42] at p44
  obtain ⟨v45, c46⟩ : ∃ v, I0 a1 4 = v := ⟨_, rfl⟩
  have b47 := iv14_4 hW0 ta1 c46
  have p48 := pre12 _ d2
  rw [c46] at p48
  obtain ⟨v49, c50⟩ : ∃ v, I0 a1 5 = v := ⟨_, rfl⟩
  have b51 := iv14_5 hW0 ta1 c50
  have p52 := pre13 _ d2
  rw [c50] at p52
  obtain ⟨v53, c54⟩ : ∃ v, I0 a1 6 = v := ⟨_, rfl⟩
  have b55 := iv14_6 hW0 ta1 c54
  have p56 := pre14 _ d2
  rw [c54] at p56
  obtain ⟨v57, c58⟩ : ∃ v, I0 a1 9 = v := ⟨_, rfl⟩
  have b59 := iv14_9 hW0 ta1 c58
  have p60 := pre15 _ d2
  rw [c58] at p60
  have p61 := pre16
  have p62 := pre17
  have p63 := pre18
  obtain ⟨v64, c65⟩ : ∃ v, I0 a0 13 = v := ⟨_, rfl⟩
  have hM0 := hN _ d2
  have hO0 : FrO 14 a1 T I0 I0 := FrO.rf
  have hF := lnF_ch gB gQ gs
  have hP := lnP_ch gB gQ gs
  replace hF := hF.neg (by omega)
  replace hP := hP.neg (by omega)
  replace hF := hF.neg (by omega)
  replace hP := hP.neg (by omega)
  refine tr_aload_n dX12_readCheese_0 rfl ?_
  refine tr_aload_n dX12_readCheese_1 rfl ?_
  refine tr_getR dX12_readCheese_2 fl12_188 (kR15 hS0.1 ta0) d2 ?_
  refine q_getI dX12_readCheese_5 fl12_224 (kR14 hS0.1 ta1) c42 ?_
  refine q_bipush dX12_readCheese_8 (by decide +kernel) ?_
  intro v66 h67
  refine q_callVv hE (M' := mX12_begins) (as := [_, _]) dX12_readCheese_10 lk12_268 inX12_begins seX12_begins myX12_begins (by decide) ⟨by decide, by decide⟩ rfl (kR15 hS0.1 ta0) (Nat.le_of_ble_eq_true rfl) rfl rfl (by decide) (by decide) (fk_X12_begins hS0.1 (gB) (gs) (gQ) ta0 (TxA.kp hT hS0 ta0 rfl rfl rfl (by decide +kernel) (by decide +kernel)) (by (try rw [c4]); first | done | with_reducible assumption | omega) (by (try rw [c4]); first | done | with_reducible assumption | omega) (by (try rw [c9]); first | done | with_reducible assumption | omega) (by (try rw [c13]); first | done | with_reducible assumption | omega) (by (try rw [c16]); first | done | assumption) (by (try rw [c19]); first | done | assumption) (by (try rw [c22]); first | done | assumption) (by (try rw [c26]); first | done | with_reducible assumption | omega) (fun q0 z0 => by obtain rfl := Option.some.inj ((d2).symm.trans z0); (try rw [c30]); first | done | with_reducible assumption | omega) (by first | done | with_reducible assumption | omega) ⟨_, d2⟩) ?_
  rintro cn' K' N' I68 R69 L70 ⟨rfl, rfl, rfl, rfl, g71, dj74, -⟩
  have hM75 : NmM I68 R0 L0 a1 gQ := NmM.kpS hM0 g71 hS0.1 ta1 (by decide +kernel) (by decide +kernel)
  have hS76 := hS0.tr g71 (by decide +kernel) (by decide +kernel)
  have c77 : I68 a1 3 = v41 := (g71.cell ta1 (by decide +kernel)).trans c42
  have hO78 : FrO 14 a1 T I0 I68 := hO0.st g71 (by decide +kernel)
  rcases dj74 with ⟨p79, p80, p81, p82, p83, p84, p85, p86, p87, p88, gl89, -⟩ | ⟨p90, p91, p92, p93, -⟩ | ⟨p94, p95, p96, p97, p98, -⟩
  · skip
    have hL99 := hL0.tr gl89 (by decide +kernel)
    have hM100 : NmM I68 R0 L70 a1 gQ := NmM.kpL hM75 gl89 hS76.1 ta1 (by decide +kernel)
    obtain ⟨v101, c102⟩ : ∃ v, I68 a0 13 = v := ⟨_, rfl⟩
    rw [c102] at p81
    rw [c65] at p81
    obtain ⟨v103, c104⟩ : ∃ v, I68 a0 9 = v := ⟨_, rfl⟩
    have b105 := iv15_9 hS76.1 ta0 c104
    rw [c104] at p82
    rw [c104] at p83
    obtain ⟨v106, c107⟩ : ∃ v, I68 a0 10 = v := ⟨_, rfl⟩
    have b108 := iv15_10 hS76.1 ta0 c107
    rw [c107] at p84
    obtain ⟨v109, c110⟩ : ∃ v, I68 a0 11 = v := ⟨_, rfl⟩
    rw [c110] at p85
    obtain ⟨y111, c112⟩ : ∃ v, L70 a0 15 = v := ⟨_, rfl⟩
    rw [c112] at p86
    obtain ⟨v113, c114⟩ : ∃ v, I68 a0 12 = v := ⟨_, rfl⟩
    rw [c114] at p87
    obtain ⟨v115, c116⟩ : ∃ v, I68 a0 8 = v := ⟨_, rfl⟩
    have b117 := iv15_8 hS76.1 ta0 c116
    rw [c116] at p88
    have p118 := p61
    unfold Q7M at p118
    replace hF := hF.neg (by omega)
    replace hP := hP.neg (by omega)
    replace hF := hF.neg (by omega)
    replace hP := hP.neg (by omega)
    clear p118
    obtain ⟨w119, w120, w121, w122, w123, w124, w125, w126, w127, w128, w129, w130⟩ := lnl_5 (B := gB) (Q := gQ) (s := gs) (by omega)
    replace hF := hF.to w119 (chF_ch gB gQ (tkN gB gs))
    replace hP := hP.to w120 (chP_ch gB gQ (tkN gB gs))
    refine tr_aload_n dX12_readCheese_13 rfl ?_
    refine q_callVl hE (M' := mX12_readFresh) (as := []) dX12_readCheese_14 lk12_285 inX12_readFresh seX12_readFresh myX12_readFresh (by decide) ⟨by decide, by decide⟩ rfl (kR15 hS76.1 ta0) (Nat.le_of_ble_eq_true rfl) rfl rfl (by decide) (by decide) (fk_X12_readFresh hS76.1 (gB) ((tkN gB gs)) (gQ) ta0 (TxA.kp hT hS76 ta0 rfl rfl rfl (by decide +kernel) (by decide +kernel)) (fun b hb => (Option.some.inj (d2.symm.trans hb)) ▸ hM100) (by (try rw [c104]); first | done | with_reducible assumption | omega) (by (try rw [c104]); first | done | with_reducible assumption | omega) (by (try rw [c107]); first | done | with_reducible assumption | omega) (by (try rw [c110]); first | done | with_reducible assumption | omega) (by (try rw [c112]); first | done | assumption) (by (try rw [c114]); first | done | assumption) (by (try rw [c116]); first | done | assumption) (by (try rw [((hS76.cell ta0 (by decide +kernel)).trans c26)]); first | done | with_reducible assumption | omega) (fun q0 z0 => by obtain rfl := Option.some.inj ((d2).symm.trans z0); (try rw [c77]); first | done | with_reducible assumption | omega) (fun q0 z0 => by obtain rfl := Option.some.inj ((d2).symm.trans z0); (try rw [((hS76.cell ta1 (by decide +kernel)).trans c46)]); first | done | with_reducible assumption | omega) ⟨_, d2⟩) ?_
    rintro y136 cn' K' N' I131 R132 L133 ⟨rfl, rfl, rfl, rfl, g134, dj137, -⟩
    have hM138 : NmM I131 R0 L70 a1 gQ := NmM.kpS hM100 g134 hS76.1 ta1 (by decide +kernel) (by decide +kernel)
    have hS139 := hS76.tr g134 (by decide +kernel) (by decide +kernel)
    have c140 : I131 a1 3 = v41 := (g134.cell ta1 (by decide +kernel)).trans c77
    have hO141 : FrO 14 a1 T I0 I131 := hO78.st g134 (by decide +kernel)
    rcases dj137 with ⟨p142, p143, p144, p145, p146, p147, p148, p149, p150, p151, p152, p153, p154, gl155, -⟩ | ⟨p156, p157, p158, p159, -⟩ | ⟨p160, p161, p162, p163, p164, -⟩
    · skip
      have hL165 := hL99.tr gl155 (by decide +kernel)
      have hM166 : NmM I131 R0 L133 a1 gQ := NmM.kpL hM138 gl155 hS139.1 ta1 (by decide +kernel)
      obtain ⟨v167, c168⟩ : ∃ v, I131 a0 13 = v := ⟨_, rfl⟩
      rw [c168] at p147
      rw [c102] at p147
      obtain ⟨v169, c170⟩ : ∃ v, I131 a0 9 = v := ⟨_, rfl⟩
      have b171 := iv15_9 hS139.1 ta0 c170
      rw [c170] at p148
      rw [c170] at p149
      obtain ⟨v172, c173⟩ : ∃ v, I131 a0 10 = v := ⟨_, rfl⟩
      have b174 := iv15_10 hS139.1 ta0 c173
      rw [c173] at p150
      obtain ⟨v175, c176⟩ : ∃ v, I131 a0 11 = v := ⟨_, rfl⟩
      rw [c176] at p151
      obtain ⟨y177, c178⟩ : ∃ v, L133 a0 15 = v := ⟨_, rfl⟩
      rw [c178] at p152
      obtain ⟨v179, c180⟩ : ∃ v, I131 a0 12 = v := ⟨_, rfl⟩
      rw [c180] at p153
      obtain ⟨v181, c182⟩ : ∃ v, I131 a0 8 = v := ⟨_, rfl⟩
      have b183 := iv15_8 hS139.1 ta0 c182
      rw [c182] at p154
      replace hF := hF.neg (by omega)
      replace hP := hP.neg (by omega)
      replace hF := hF.neg (by omega)
      replace hP := hP.neg (by omega)
      refine tr_lstore_n dX12_readCheese_17 (by decide) (by decide) (by decide) ?_
      refine tr_aload_n dX12_readCheese_18 rfl ?_
      refine tr_ldcwS dX12_readCheese_19 ld12_289 ?_
      refine q_iconst dX12_readCheese_22 (by decide) ?_
      intro v184 h185
      refine tr_aload_n dX12_readCheese_23 rfl ?_
      refine tr_getR dX12_readCheese_24 fl12_188 (kR15 hS139.1 ta0) d2 ?_
      refine q_getI dX12_readCheese_27 fl12_263 (kR14 hS139.1 ta1) ((hS139.cell ta1 (by decide +kernel)).trans c34) ?_
      refine q_iconst dX12_readCheese_30 (by decide) ?_
      intro v186 h187
      refine q_isubE dX12_readCheese_31 (by intros; omega) ?_
      intro v188 h189
      refine q_callVi hE (M' := mX12_readPart) (as := [_, _, _]) dX12_readCheese_32 lk12_249 inX12_readPart seX12_readPart myX12_readPart (by decide) ⟨by decide, by decide⟩ rfl (kR15 hS139.1 ta0) (Nat.le_of_ble_eq_true rfl) rfl rfl (by decide) (by decide) (fk_X12_readPart hS139.1 (gB) ((tkN gB (tkN gB gs))) ta0 (by decide) (TxA.kp hT hS139 ta0 rfl rfl rfl (by decide +kernel) (by decide +kernel)) (by (try rw [c170]); first | done | with_reducible assumption | omega) (by (try rw [c170]); first | done | with_reducible assumption | omega) (by (try rw [c173]); first | done | with_reducible assumption | omega) (by (try rw [c176]); first | done | with_reducible assumption | omega) (by (try rw [c178]); first | done | assumption) (by (try rw [c180]); first | done | assumption) (by (try rw [c182]); first | done | assumption) (by (try rw [((hS139.cell ta0 (by decide +kernel)).trans c26)]); first | done | with_reducible assumption | omega)) ?_
      rintro v195 cn' K' N' I190 R191 L192 ⟨rfl, rfl, rfl, rfl, g193, dj196, -⟩
      (try rw [pk_15] at dj196)
      have hM197 : NmM I190 R0 L133 a1 gQ := NmM.kpS hM166 g193 hS139.1 ta1 (by decide +kernel) (by decide +kernel)
      have hS198 := hS139.tr g193 (by decide +kernel) (by decide +kernel)
      have c199 : I190 a1 3 = v41 := (g193.cell ta1 (by decide +kernel)).trans c140
      have hO200 : FrO 14 a1 T I0 I190 := hO141.st g193 (by decide +kernel)
      rcases dj196 with ⟨p201, p202, p203, p204, p205, p206, p207, p208, p209, p210, p211, p212, p213, p214, gl215, -⟩ | ⟨p216, p217, p218, p219, p220, -⟩ | ⟨p221, p222, p223, p224, p225, p226, p227, -⟩ | ⟨p228, p229, p230, p231, p232, p233, p234, p235, -⟩
      · skip
        have hL236 := hL165.tr gl215 (by decide +kernel)
        have hM237 : NmM I190 R0 L192 a1 gQ := NmM.kpL hM197 gl215 hS198.1 ta1 (by decide +kernel)
        obtain ⟨v238, c239⟩ : ∃ v, I190 a0 13 = v := ⟨_, rfl⟩
        rw [c239] at p207
        rw [c168] at p207
        obtain ⟨v240, c241⟩ : ∃ v, I190 a0 9 = v := ⟨_, rfl⟩
        have b242 := iv15_9 hS198.1 ta0 c241
        rw [c241] at p208
        rw [c241] at p209
        obtain ⟨v243, c244⟩ : ∃ v, I190 a0 10 = v := ⟨_, rfl⟩
        have b245 := iv15_10 hS198.1 ta0 c244
        rw [c244] at p210
        obtain ⟨v246, c247⟩ : ∃ v, I190 a0 11 = v := ⟨_, rfl⟩
        rw [c247] at p211
        obtain ⟨y248, c249⟩ : ∃ v, L192 a0 15 = v := ⟨_, rfl⟩
        rw [c249] at p212
        obtain ⟨v250, c251⟩ : ∃ v, I190 a0 12 = v := ⟨_, rfl⟩
        rw [c251] at p213
        obtain ⟨v252, c253⟩ : ∃ v, I190 a0 8 = v := ⟨_, rfl⟩
        have b254 := iv15_8 hS198.1 ta0 c253
        rw [c253] at p214
        replace hF := hF.neg (by omega)
        replace hP := hP.neg (by omega)
        replace hF := hF.neg (by omega)
        replace hP := hP.neg (by omega)
        replace hF := hF.neg (by omega)
        replace hP := hP.neg (by omega)
        refine tr_istore_n dX12_readCheese_35 (by decide) (by decide) ?_
        refine tr_aload_n dX12_readCheese_36 rfl ?_
        refine tr_ldcS dX12_readCheese_37 ld12_186 ?_
        refine q_callVi hE (M' := mX12_eatsWord) (as := [_]) dX12_readCheese_39 lk12_290 inX12_eatsWord seX12_eatsWord myX12_eatsWord (by decide) ⟨by decide, by decide⟩ rfl (kR15 hS198.1 ta0) (Nat.le_of_ble_eq_true rfl) rfl rfl (by decide) (by decide) (fk_X12_eatsWord hS198.1 (gB) ((tkN gB (tkN gB (tkN gB (tkN gB gs))))) ta0 (by decide) (TxA.kp hT hS198 ta0 rfl rfl rfl (by decide +kernel) (by decide +kernel)) (by (try rw [c241]); first | done | with_reducible assumption | omega) (by (try rw [c241]); first | done | with_reducible assumption | omega) (by (try rw [c244]); first | done | with_reducible assumption | omega) (by (try rw [c247]); first | done | with_reducible assumption | omega) (by (try rw [c249]); first | done | assumption) (by (try rw [c251]); first | done | assumption) (by (try rw [c253]); first | done | assumption) (by (try rw [((hS198.cell ta0 (by decide +kernel)).trans c26)]); first | done | with_reducible assumption | omega)) ?_
        rintro v260 cn' K' N' I255 R256 L257 ⟨rfl, rfl, rfl, rfl, g258, gl259, h261, dj262, -⟩
        (try rw [pk_10] at dj262)
        have hM263 : NmM I255 R0 L192 a1 gQ := NmM.kpS hM237 g258 hS198.1 ta1 (by decide +kernel) (by decide +kernel)
        have hS264 := hS198.tr g258 (by decide +kernel) (by decide +kernel)
        have c265 : I255 a1 3 = v41 := (g258.cell ta1 (by decide +kernel)).trans c199
        have c266 : I255 a0 13 = v238 := (g258.cell ta0 (by decide +kernel)).trans c239
        have hO267 : FrO 14 a1 T I0 I255 := hO200.st g258 (by decide +kernel)
        have hL268 := hL236.tr gl259 (by decide +kernel)
        have hM269 : NmM I255 R0 L257 a1 gQ := NmM.kpL hM263 gl259 hS264.1 ta1 (by decide +kernel)
        rcases dj262 with ⟨p270, p271, p272, p273, p274, p275, p276, p277, p278, p279, p280, -⟩ | ⟨p281, p282, p283, p284, p285, p286, p287, p288, p289, p290, -⟩
        · skip
          rw [c266] at p273
          rw [c239] at p273
          obtain ⟨v291, c292⟩ : ∃ v, I255 a0 9 = v := ⟨_, rfl⟩
          have b293 := iv15_9 hS264.1 ta0 c292
          rw [c292] at p274
          rw [c292] at p275
          obtain ⟨v294, c295⟩ : ∃ v, I255 a0 10 = v := ⟨_, rfl⟩
          have b296 := iv15_10 hS264.1 ta0 c295
          rw [c295] at p276
          obtain ⟨v297, c298⟩ : ∃ v, I255 a0 11 = v := ⟨_, rfl⟩
          rw [c298] at p277
          obtain ⟨y299, c300⟩ : ∃ v, L257 a0 15 = v := ⟨_, rfl⟩
          rw [c300] at p278
          obtain ⟨v301, c302⟩ : ∃ v, I255 a0 12 = v := ⟨_, rfl⟩
          rw [c302] at p279
          obtain ⟨v303, c304⟩ : ∃ v, I255 a0 8 = v := ⟨_, rfl⟩
          have b305 := iv15_8 hS264.1 ta0 c304
          rw [c304] at p280
          refine tr_istore dX12_readCheese_42 (by decide) (by decide) ?_
          refine tr_aload_n dX12_readCheese_44 rfl ?_
          refine q_getI dX12_readCheese_45 fl12_99 (kR15 hS264.1 ta0) c292 ?_
          refine q_iconst dX12_readCheese_48 (by decide) ?_
          intro v306 h307
          refine q_icmp_ne 53 dX12_readCheese_49 (by decide) (fun h308 => ?_) (fun h308 => ?_)
          · skip
            refine tr_aload_n dX12_readCheese_53 rfl ?_
            refine tr_lload_n dX12_readCheese_54 rfl ?_
            refine q_iconst dX12_readCheese_55 (by decide) ?_
            intro v309 h310
            refine tr_aload_n dX12_readCheese_56 rfl ?_
            refine tr_getR dX12_readCheese_57 fl12_188 (kR15 hS264.1 ta0) d2 ?_
            refine q_getI dX12_readCheese_60 fl12_224 (kR14 hS264.1 ta1) c265 ?_
            obtain ⟨v312, c313⟩ : ∃ v, I255 a1 7 = v := ⟨_, rfl⟩
            have b314 := iv14_7 hS264.1 ta1 c313
            have p311 := hS264.1.2.2.2.2.1 a0 ta0 _ d2
            rw [c313, c265, ((hS264.cell ta1 (by decide +kernel)).trans c46)] at p311
            refine q_callVv hE (M' := mX12_names) (as := [_, _, _]) dX12_readCheese_63 lk12_293 inX12_names seX12_names myX12_names (by decide) ⟨by decide, by decide⟩ rfl (kR15 hS264.1 ta0) (Nat.le_of_ble_eq_true rfl) rfl rfl (by decide) (by decide) (fk_X12_names hS264.1  ta0 (fun q0 z0 => by obtain rfl := Option.some.inj ((d2).symm.trans z0); (try rw [c313]); first | done | with_reducible assumption | omega) ⟨_, d2⟩) ?_
            rintro cn' K' N' I315 R316 L317 ⟨rfl, rfl, rfl, rfl, g318, gl319, rp321, rp322, -⟩
            have hS323 := hS264.tr g318 (by decide +kernel) (by decide +kernel)
            have c324 : I315 a1 3 = v41 := (g318.cell ta1 (by decide +kernel)).trans c265
            have c325 : I315 a0 13 = v238 := (g318.cell ta0 (by decide +kernel)).trans c266
            have c326 : I315 a0 9 = v291 := (g318.cell ta0 (by decide +kernel)).trans c292
            have c327 : I315 a0 10 = v294 := (g318.cell ta0 (by decide +kernel)).trans c295
            have c328 : I315 a0 11 = v297 := (g318.cell ta0 (by decide +kernel)).trans c298
            have c329 : I315 a0 12 = v301 := (g318.cell ta0 (by decide +kernel)).trans c302
            have c330 : I315 a0 8 = v303 := (g318.cell ta0 (by decide +kernel)).trans c304
            have hO331 : FrO 14 a1 T I0 I315 := hO267.tr (rp322 _ d2)
            have hL332 := hL268.tr gl319 (by decide +kernel)
            have c333 : L317 a0 15 = y299 := (gl319.cell ta0 (by decide +kernel)).trans c300
            have hM334 := NmM.up5 (B := gB) (s := (tkN gB gs)) hM269 (rp321 _ d2) (by omega) (by omega) (by rw [c313]; omega) (by omega) (by omega)
            refine tr_aload_n dX12_readCheese_66 rfl ?_
            refine tr_getR dX12_readCheese_67 fl12_188 (kR15 hS323.1 ta0) d2 ?_
            obtain ⟨a335, d336, ta335⟩ := rf14_15 hW0 ta1
            refine tr_getR dX12_readCheese_70 fl12_296 (kR14 hS323.1 ta1) d336 ?_
            refine tr_aload_n dX12_readCheese_73 rfl ?_
            refine tr_getR dX12_readCheese_74 fl12_188 (kR15 hS323.1 ta0) d2 ?_
            refine q_getI dX12_readCheese_77 fl12_224 (kR14 hS323.1 ta1) c324 ?_
            refine tr_iload_n dX12_readCheese_80 rfl ?_
            refine q_iast dX12_readCheese_81 (kR58 hS323.1 ta335) (ti_in (nR58 hS323.1 ta335) (by omega) (by omega)) hS323 ta335 (by show (0 : Int) ≤ v195.toInt ∧ v195.toInt ≤ (3 : Int); omega) rfl (by rfl) ?_
            intro I337 hS338 e340 f339
            have c341 : I337 a1 3 = v41 := (f339 _ _ (fun q => by have z := ta1; rw [q.1, ta335] at z; exact absurd z (by decide))).trans c324
            have c342 : I337 a0 13 = v238 := (f339 _ _ (fun q => by have z := ta0; rw [q.1, ta335] at z; exact absurd z (by decide))).trans c325
            have c343 : I337 a0 9 = v291 := (f339 _ _ (fun q => by have z := ta0; rw [q.1, ta335] at z; exact absurd z (by decide))).trans c326
            have c344 : I337 a0 10 = v294 := (f339 _ _ (fun q => by have z := ta0; rw [q.1, ta335] at z; exact absurd z (by decide))).trans c327
            have c345 : I337 a0 11 = v297 := (f339 _ _ (fun q => by have z := ta0; rw [q.1, ta335] at z; exact absurd z (by decide))).trans c328
            have c346 : I337 a0 12 = v301 := (f339 _ _ (fun q => by have z := ta0; rw [q.1, ta335] at z; exact absurd z (by decide))).trans c329
            have c347 : I337 a0 8 = v303 := (f339 _ _ (fun q => by have z := ta0; rw [q.1, ta335] at z; exact absurd z (by decide))).trans c330
            have hO348 : FrO 14 a1 T I0 I337 := hO331.put f339 ta335 (Or.inl (by decide))
            have hM349 : NmM I337 R0 L317 a1 (bdQ gB gQ 5 (tkN gB gs)) := NmM.kp1 hM334 f339 ta335 rfl rfl hS323.1 ta1
            refine tr_aload_n dX12_readCheese_82 rfl ?_
            refine tr_getR dX12_readCheese_83 fl12_188 (kR15 hS338.1 ta0) d2 ?_
            obtain ⟨a350, d351, ta350⟩ := rf14_19 hW0 ta1
            refine tr_getR dX12_readCheese_86 fl12_299 (kR14 hS338.1 ta1) d351 ?_
            refine tr_aload_n dX12_readCheese_89 rfl ?_
            refine tr_getR dX12_readCheese_90 fl12_188 (kR15 hS338.1 ta0) d2 ?_
            refine q_getI dX12_readCheese_93 fl12_224 (kR14 hS338.1 ta1) c341 ?_
            refine tr_iload dX12_readCheese_96 rfl ?_
            refine q_zast dX12_readCheese_98 (kR62 hS338.1 ta350) (ti_in (nR62 hS338.1 ta350) (by omega) (by omega)) hS338 ta350 (by omega) rfl rfl (by rfl) ?_
            intro I352 hS353 f354
            have c356 : I352 a1 3 = v41 := (f354 _ _ (fun q => by have z := ta1; rw [q.1, ta350] at z; exact absurd z (by decide))).trans c341
            have c357 : I352 a0 13 = v238 := (f354 _ _ (fun q => by have z := ta0; rw [q.1, ta350] at z; exact absurd z (by decide))).trans c342
            have c358 : I352 a0 9 = v291 := (f354 _ _ (fun q => by have z := ta0; rw [q.1, ta350] at z; exact absurd z (by decide))).trans c343
            have c359 : I352 a0 10 = v294 := (f354 _ _ (fun q => by have z := ta0; rw [q.1, ta350] at z; exact absurd z (by decide))).trans c344
            have c360 : I352 a0 11 = v297 := (f354 _ _ (fun q => by have z := ta0; rw [q.1, ta350] at z; exact absurd z (by decide))).trans c345
            have c361 : I352 a0 12 = v301 := (f354 _ _ (fun q => by have z := ta0; rw [q.1, ta350] at z; exact absurd z (by decide))).trans c346
            have c362 : I352 a0 8 = v303 := (f354 _ _ (fun q => by have z := ta0; rw [q.1, ta350] at z; exact absurd z (by decide))).trans c347
            have hO363 : FrO 14 a1 T I0 I352 := hO348.put f354 ta350 (Or.inl (by decide))
            have hM364 : NmM I352 R0 L317 a1 (bdQ gB gQ 5 (tkN gB gs)) := NmM.kp1 hM349 f354 ta350 rfl rfl hS338.1 ta1
            refine tr_aload_n dX12_readCheese_99 rfl ?_
            refine tr_getR dX12_readCheese_100 fl12_188 (kR15 hS353.1 ta0) d2 ?_
            refine tr_dup dX12_readCheese_103 rfl ?_
            refine q_getI dX12_readCheese_104 fl12_224 (kR14 hS353.1 ta1) c356 ?_
            refine q_iconst dX12_readCheese_107 (by decide) ?_
            intro v365 h366
            refine q_iaddE dX12_readCheese_108 (by intros; omega) ?_
            intro v367 h368
            refine q_putX dX12_readCheese_109 fl12_224 (kR14 hS353.1 ta1) (Or.inl rfl) hS353 ta1 (by decide +kernel) (hS353.1.putN (d' := 0) ta0 d2 (Or.inr (Or.inl rfl)) (by rw [c356]; omega) (by decide) (by show (0 : Int) ≤ v367.toInt ∧ v367.toInt ≤ (8 : Int); omega)) ?_
            intro I369 hS370 e371 f372
            have c373 : I369 a0 13 = v238 := (f372 _ _ (fun q => absurd q.2 (by decide))).trans c357
            have c374 : I369 a0 9 = v291 := (f372 _ _ (fun q => absurd q.2 (by decide))).trans c358
            have c375 : I369 a0 10 = v294 := (f372 _ _ (fun q => absurd q.2 (by decide))).trans c359
            have c376 : I369 a0 11 = v297 := (f372 _ _ (fun q => absurd q.2 (by decide))).trans c360
            have c377 : I369 a0 12 = v301 := (f372 _ _ (fun q => absurd q.2 (by decide))).trans c361
            have c378 : I369 a0 8 = v303 := (f372 _ _ (fun q => absurd q.2 (by decide))).trans c362
            have hO379 : FrO 14 a1 T I0 I369 := hO363.put f372 ta1 (Or.inr rfl)
            have hM380 : NmM I369 R0 L317 a1 (bdQ gB gQ 5 (tkN gB gs)) := NmM.kp1 hM364 f372 ta1 rfl rfl hS353.1 ta1
            have eF := hF.eq
            have eP := hP.eq
            have es381 : chS gB gQ (tkN gB gs) = (tkN gB (tkN gB (tkN gB (tkN gB (tkN gB gs))))) := by simp only [chS, ↓reduceIte]; repeat' (first | split | omega)
            obtain ⟨v382, c383⟩ : ∃ v, I369 a0 14 = v := ⟨_, rfl⟩
            exact tr_vret hZ dX12_readCheese_112 rfl (by decide) (by decide) ⟨rfl, rfl, rfl, rfl, rfl, hS370, (fun dr hd => (Option.some.inj (d2.symm.trans hd)) ▸ hO379), (Or.inl ⟨(by (try rw [w121]); (try rw [es381]); first | done | with_reducible assumption | omega), (fun q0 z0 => by obtain rfl := Option.some.inj ((d2).symm.trans z0); (try rw [w121]); (try rw [es381]); (try rw [((hS370.cell ta1 (by decide +kernel)).trans c30)]); first | done | with_reducible assumption | omega), (fun q0 z0 => by obtain rfl := Option.some.inj ((d2).symm.trans z0); (try rw [w121]); (try rw [es381]); (try rw [((hS370.cell ta1 (by decide +kernel)).trans c34)]); first | done | with_reducible assumption | omega), (fun q0 z0 => by obtain rfl := Option.some.inj ((d2).symm.trans z0); (try rw [w121]); (try rw [es381]); (try rw [((hS370.cell ta1 (by decide +kernel)).trans c38)]); first | done | with_reducible assumption | omega), (fun q0 z0 => by obtain rfl := Option.some.inj ((d2).symm.trans z0); (try rw [w121]); (try rw [es381]); (try rw [e371]); first | done | with_reducible assumption | omega), (fun q0 z0 => by obtain rfl := Option.some.inj ((d2).symm.trans z0); (try rw [w121]); (try rw [es381]); (try rw [((hS370.cell ta1 (by decide +kernel)).trans c46)]); first | done | with_reducible assumption | omega), (fun q0 z0 => by obtain rfl := Option.some.inj ((d2).symm.trans z0); (try rw [w121]); (try rw [es381]); (try rw [((hS370.cell ta1 (by decide +kernel)).trans c50)]); first | done | with_reducible assumption | omega), (fun q0 z0 => by obtain rfl := Option.some.inj ((d2).symm.trans z0); (try rw [w121]); (try rw [es381]); (try rw [((hS370.cell ta1 (by decide +kernel)).trans c54)]); first | done | with_reducible assumption | omega), (fun q0 z0 => by obtain rfl := Option.some.inj ((d2).symm.trans z0); (try rw [w121]); (try rw [es381]); (try rw [((hS370.cell ta1 (by decide +kernel)).trans c58)]); first | done | with_reducible assumption | omega), (by (try rw [w121]); (try rw [es381]); (try rw [c373]); (try rw [c65]); first | done | with_reducible assumption | omega), (by (try rw [w121]); (try rw [es381]); (try rw [c374]); first | done | with_reducible assumption | omega), (by (try rw [w121]); (try rw [es381]); (try rw [c374]); first | done | with_reducible assumption | omega), (by (try rw [w121]); (try rw [es381]); (try rw [c375]); first | done | with_reducible assumption | omega), (by (try rw [w121]); (try rw [es381]); (try rw [c376]); first | done | with_reducible assumption | omega), (by (try rw [w121]); (try rw [es381]); (try rw [c333]); first | done | assumption), (by (try rw [w121]); (try rw [es381]); (try rw [c377]); first | done | assumption), (by (try rw [w121]); (try rw [es381]); (try rw [c378]); first | done | assumption), hL332, (fun b hb => (Option.some.inj (d2.symm.trans hb)) ▸ NmM.ln hM380 (by omega)), trivial⟩), trivial⟩
          · skip
            exfalso; omega
        · skip
          rw [c266] at p283
          rw [c239] at p283
          obtain ⟨v384, c385⟩ : ∃ v, I255 a0 9 = v := ⟨_, rfl⟩
          have b386 := iv15_9 hS264.1 ta0 c385
          rw [c385] at p284
          rw [c385] at p285
          obtain ⟨v387, c388⟩ : ∃ v, I255 a0 10 = v := ⟨_, rfl⟩
          have b389 := iv15_10 hS264.1 ta0 c388
          rw [c388] at p286
          obtain ⟨v390, c391⟩ : ∃ v, I255 a0 11 = v := ⟨_, rfl⟩
          rw [c391] at p287
          obtain ⟨y392, c393⟩ : ∃ v, L257 a0 15 = v := ⟨_, rfl⟩
          rw [c393] at p288
          obtain ⟨v394, c395⟩ : ∃ v, I255 a0 12 = v := ⟨_, rfl⟩
          rw [c395] at p289
          obtain ⟨v396, c397⟩ : ∃ v, I255 a0 8 = v := ⟨_, rfl⟩
          have b398 := iv15_8 hS264.1 ta0 c397
          rw [c397] at p290
          refine tr_istore dX12_readCheese_42 (by decide) (by decide) ?_
          refine tr_aload_n dX12_readCheese_44 rfl ?_
          refine q_getI dX12_readCheese_45 fl12_99 (kR15 hS264.1 ta0) c385 ?_
          refine q_iconst dX12_readCheese_48 (by decide) ?_
          intro v399 h400
          refine q_icmp_ne 53 dX12_readCheese_49 (by decide) (fun h401 => ?_) (fun h401 => ?_)
          · skip
            refine tr_aload_n dX12_readCheese_53 rfl ?_
            refine tr_lload_n dX12_readCheese_54 rfl ?_
            refine q_iconst dX12_readCheese_55 (by decide) ?_
            intro v402 h403
            refine tr_aload_n dX12_readCheese_56 rfl ?_
            refine tr_getR dX12_readCheese_57 fl12_188 (kR15 hS264.1 ta0) d2 ?_
            refine q_getI dX12_readCheese_60 fl12_224 (kR14 hS264.1 ta1) c265 ?_
            obtain ⟨v405, c406⟩ : ∃ v, I255 a1 7 = v := ⟨_, rfl⟩
            have b407 := iv14_7 hS264.1 ta1 c406
            have p404 := hS264.1.2.2.2.2.1 a0 ta0 _ d2
            rw [c406, c265, ((hS264.cell ta1 (by decide +kernel)).trans c46)] at p404
            refine q_callVv hE (M' := mX12_names) (as := [_, _, _]) dX12_readCheese_63 lk12_293 inX12_names seX12_names myX12_names (by decide) ⟨by decide, by decide⟩ rfl (kR15 hS264.1 ta0) (Nat.le_of_ble_eq_true rfl) rfl rfl (by decide) (by decide) (fk_X12_names hS264.1  ta0 (fun q0 z0 => by obtain rfl := Option.some.inj ((d2).symm.trans z0); (try rw [c406]); first | done | with_reducible assumption | omega) ⟨_, d2⟩) ?_
            rintro cn' K' N' I408 R409 L410 ⟨rfl, rfl, rfl, rfl, g411, gl412, rp414, rp415, -⟩
            have hS416 := hS264.tr g411 (by decide +kernel) (by decide +kernel)
            have c417 : I408 a1 3 = v41 := (g411.cell ta1 (by decide +kernel)).trans c265
            have c418 : I408 a0 13 = v238 := (g411.cell ta0 (by decide +kernel)).trans c266
            have c419 : I408 a0 9 = v384 := (g411.cell ta0 (by decide +kernel)).trans c385
            have c420 : I408 a0 10 = v387 := (g411.cell ta0 (by decide +kernel)).trans c388
            have c421 : I408 a0 11 = v390 := (g411.cell ta0 (by decide +kernel)).trans c391
            have c422 : I408 a0 12 = v394 := (g411.cell ta0 (by decide +kernel)).trans c395
            have c423 : I408 a0 8 = v396 := (g411.cell ta0 (by decide +kernel)).trans c397
            have hO424 : FrO 14 a1 T I0 I408 := hO267.tr (rp415 _ d2)
            have hL425 := hL268.tr gl412 (by decide +kernel)
            have c426 : L410 a0 15 = y392 := (gl412.cell ta0 (by decide +kernel)).trans c393
            have hM427 := NmM.up5 (B := gB) (s := (tkN gB gs)) hM269 (rp414 _ d2) (by omega) (by omega) (by rw [c406]; omega) (by omega) (by omega)
            refine tr_aload_n dX12_readCheese_66 rfl ?_
            refine tr_getR dX12_readCheese_67 fl12_188 (kR15 hS416.1 ta0) d2 ?_
            obtain ⟨a428, d429, ta428⟩ := rf14_15 hW0 ta1
            refine tr_getR dX12_readCheese_70 fl12_296 (kR14 hS416.1 ta1) d429 ?_
            refine tr_aload_n dX12_readCheese_73 rfl ?_
            refine tr_getR dX12_readCheese_74 fl12_188 (kR15 hS416.1 ta0) d2 ?_
            refine q_getI dX12_readCheese_77 fl12_224 (kR14 hS416.1 ta1) c417 ?_
            refine tr_iload_n dX12_readCheese_80 rfl ?_
            refine q_iast dX12_readCheese_81 (kR58 hS416.1 ta428) (ti_in (nR58 hS416.1 ta428) (by omega) (by omega)) hS416 ta428 (by show (0 : Int) ≤ v195.toInt ∧ v195.toInt ≤ (3 : Int); omega) rfl (by rfl) ?_
            intro I430 hS431 e433 f432
            have c434 : I430 a1 3 = v41 := (f432 _ _ (fun q => by have z := ta1; rw [q.1, ta428] at z; exact absurd z (by decide))).trans c417
            have c435 : I430 a0 13 = v238 := (f432 _ _ (fun q => by have z := ta0; rw [q.1, ta428] at z; exact absurd z (by decide))).trans c418
            have c436 : I430 a0 9 = v384 := (f432 _ _ (fun q => by have z := ta0; rw [q.1, ta428] at z; exact absurd z (by decide))).trans c419
            have c437 : I430 a0 10 = v387 := (f432 _ _ (fun q => by have z := ta0; rw [q.1, ta428] at z; exact absurd z (by decide))).trans c420
            have c438 : I430 a0 11 = v390 := (f432 _ _ (fun q => by have z := ta0; rw [q.1, ta428] at z; exact absurd z (by decide))).trans c421
            have c439 : I430 a0 12 = v394 := (f432 _ _ (fun q => by have z := ta0; rw [q.1, ta428] at z; exact absurd z (by decide))).trans c422
            have c440 : I430 a0 8 = v396 := (f432 _ _ (fun q => by have z := ta0; rw [q.1, ta428] at z; exact absurd z (by decide))).trans c423
            have hO441 : FrO 14 a1 T I0 I430 := hO424.put f432 ta428 (Or.inl (by decide))
            have hM442 : NmM I430 R0 L410 a1 (bdQ gB gQ 5 (tkN gB gs)) := NmM.kp1 hM427 f432 ta428 rfl rfl hS416.1 ta1
            refine tr_aload_n dX12_readCheese_82 rfl ?_
            refine tr_getR dX12_readCheese_83 fl12_188 (kR15 hS431.1 ta0) d2 ?_
            obtain ⟨a443, d444, ta443⟩ := rf14_19 hW0 ta1
            refine tr_getR dX12_readCheese_86 fl12_299 (kR14 hS431.1 ta1) d444 ?_
            refine tr_aload_n dX12_readCheese_89 rfl ?_
            refine tr_getR dX12_readCheese_90 fl12_188 (kR15 hS431.1 ta0) d2 ?_
            refine q_getI dX12_readCheese_93 fl12_224 (kR14 hS431.1 ta1) c434 ?_
            refine tr_iload dX12_readCheese_96 rfl ?_
            refine q_zast dX12_readCheese_98 (kR62 hS431.1 ta443) (ti_in (nR62 hS431.1 ta443) (by omega) (by omega)) hS431 ta443 (by omega) rfl rfl (by rfl) ?_
            intro I445 hS446 f447
            have c449 : I445 a1 3 = v41 := (f447 _ _ (fun q => by have z := ta1; rw [q.1, ta443] at z; exact absurd z (by decide))).trans c434
            have c450 : I445 a0 13 = v238 := (f447 _ _ (fun q => by have z := ta0; rw [q.1, ta443] at z; exact absurd z (by decide))).trans c435
            have c451 : I445 a0 9 = v384 := (f447 _ _ (fun q => by have z := ta0; rw [q.1, ta443] at z; exact absurd z (by decide))).trans c436
            have c452 : I445 a0 10 = v387 := (f447 _ _ (fun q => by have z := ta0; rw [q.1, ta443] at z; exact absurd z (by decide))).trans c437
            have c453 : I445 a0 11 = v390 := (f447 _ _ (fun q => by have z := ta0; rw [q.1, ta443] at z; exact absurd z (by decide))).trans c438
            have c454 : I445 a0 12 = v394 := (f447 _ _ (fun q => by have z := ta0; rw [q.1, ta443] at z; exact absurd z (by decide))).trans c439
            have c455 : I445 a0 8 = v396 := (f447 _ _ (fun q => by have z := ta0; rw [q.1, ta443] at z; exact absurd z (by decide))).trans c440
            have hO456 : FrO 14 a1 T I0 I445 := hO441.put f447 ta443 (Or.inl (by decide))
            have hM457 : NmM I445 R0 L410 a1 (bdQ gB gQ 5 (tkN gB gs)) := NmM.kp1 hM442 f447 ta443 rfl rfl hS431.1 ta1
            refine tr_aload_n dX12_readCheese_99 rfl ?_
            refine tr_getR dX12_readCheese_100 fl12_188 (kR15 hS446.1 ta0) d2 ?_
            refine tr_dup dX12_readCheese_103 rfl ?_
            refine q_getI dX12_readCheese_104 fl12_224 (kR14 hS446.1 ta1) c449 ?_
            refine q_iconst dX12_readCheese_107 (by decide) ?_
            intro v458 h459
            refine q_iaddE dX12_readCheese_108 (by intros; omega) ?_
            intro v460 h461
            refine q_putX dX12_readCheese_109 fl12_224 (kR14 hS446.1 ta1) (Or.inl rfl) hS446 ta1 (by decide +kernel) (hS446.1.putN (d' := 0) ta0 d2 (Or.inr (Or.inl rfl)) (by rw [c449]; omega) (by decide) (by show (0 : Int) ≤ v460.toInt ∧ v460.toInt ≤ (8 : Int); omega)) ?_
            intro I462 hS463 e464 f465
            have c466 : I462 a0 13 = v238 := (f465 _ _ (fun q => absurd q.2 (by decide))).trans c450
            have c467 : I462 a0 9 = v384 := (f465 _ _ (fun q => absurd q.2 (by decide))).trans c451
            have c468 : I462 a0 10 = v387 := (f465 _ _ (fun q => absurd q.2 (by decide))).trans c452
            have c469 : I462 a0 11 = v390 := (f465 _ _ (fun q => absurd q.2 (by decide))).trans c453
            have c470 : I462 a0 12 = v394 := (f465 _ _ (fun q => absurd q.2 (by decide))).trans c454
            have c471 : I462 a0 8 = v396 := (f465 _ _ (fun q => absurd q.2 (by decide))).trans c455
            have hO472 : FrO 14 a1 T I0 I462 := hO456.put f465 ta1 (Or.inr rfl)
            have hM473 : NmM I462 R0 L410 a1 (bdQ gB gQ 5 (tkN gB gs)) := NmM.kp1 hM457 f465 ta1 rfl rfl hS446.1 ta1
            have eF := hF.eq
            have eP := hP.eq
            have p475 := p282
            unfold NotW at p475
            have es474 : chS gB gQ (tkN gB gs) = (tkN gB (tkN gB (tkN gB (tkN gB gs)))) := by simp only [chS, ↓reduceIte]; repeat' (first | split | omega)
            obtain ⟨v476, c477⟩ : ∃ v, I462 a0 14 = v := ⟨_, rfl⟩
            exact tr_vret hZ dX12_readCheese_112 rfl (by decide) (by decide) ⟨rfl, rfl, rfl, rfl, rfl, hS463, (fun dr hd => (Option.some.inj (d2.symm.trans hd)) ▸ hO472), (Or.inl ⟨(by (try rw [w121]); (try rw [es474]); first | done | with_reducible assumption | omega), (fun q0 z0 => by obtain rfl := Option.some.inj ((d2).symm.trans z0); (try rw [w121]); (try rw [es474]); (try rw [((hS463.cell ta1 (by decide +kernel)).trans c30)]); first | done | with_reducible assumption | omega), (fun q0 z0 => by obtain rfl := Option.some.inj ((d2).symm.trans z0); (try rw [w121]); (try rw [es474]); (try rw [((hS463.cell ta1 (by decide +kernel)).trans c34)]); first | done | with_reducible assumption | omega), (fun q0 z0 => by obtain rfl := Option.some.inj ((d2).symm.trans z0); (try rw [w121]); (try rw [es474]); (try rw [((hS463.cell ta1 (by decide +kernel)).trans c38)]); first | done | with_reducible assumption | omega), (fun q0 z0 => by obtain rfl := Option.some.inj ((d2).symm.trans z0); (try rw [w121]); (try rw [es474]); (try rw [e464]); first | done | with_reducible assumption | omega), (fun q0 z0 => by obtain rfl := Option.some.inj ((d2).symm.trans z0); (try rw [w121]); (try rw [es474]); (try rw [((hS463.cell ta1 (by decide +kernel)).trans c46)]); first | done | with_reducible assumption | omega), (fun q0 z0 => by obtain rfl := Option.some.inj ((d2).symm.trans z0); (try rw [w121]); (try rw [es474]); (try rw [((hS463.cell ta1 (by decide +kernel)).trans c50)]); first | done | with_reducible assumption | omega), (fun q0 z0 => by obtain rfl := Option.some.inj ((d2).symm.trans z0); (try rw [w121]); (try rw [es474]); (try rw [((hS463.cell ta1 (by decide +kernel)).trans c54)]); first | done | with_reducible assumption | omega), (fun q0 z0 => by obtain rfl := Option.some.inj ((d2).symm.trans z0); (try rw [w121]); (try rw [es474]); (try rw [((hS463.cell ta1 (by decide +kernel)).trans c58)]); first | done | with_reducible assumption | omega), (by (try rw [w121]); (try rw [es474]); (try rw [c466]); (try rw [c65]); first | done | with_reducible assumption | omega), (by (try rw [w121]); (try rw [es474]); (try rw [c467]); first | done | with_reducible assumption | omega), (by (try rw [w121]); (try rw [es474]); (try rw [c467]); first | done | with_reducible assumption | omega), (by (try rw [w121]); (try rw [es474]); (try rw [c468]); first | done | with_reducible assumption | omega), (by (try rw [w121]); (try rw [es474]); (try rw [c469]); first | done | with_reducible assumption | omega), (by (try rw [w121]); (try rw [es474]); (try rw [c426]); first | done | assumption), (by (try rw [w121]); (try rw [es474]); (try rw [c470]); first | done | assumption), (by (try rw [w121]); (try rw [es474]); (try rw [c471]); first | done | assumption), hL425, (fun b hb => (Option.some.inj (d2.symm.trans hb)) ▸ NmM.ln hM473 (by omega)), trivial⟩), trivial⟩
          · skip
            exfalso; omega
      · skip
        obtain ⟨v478, c479⟩ : ∃ v, I190 a0 9 = v := ⟨_, rfl⟩
        have b480 := iv15_9 hS198.1 ta0 c479
        rw [c479] at p218
        obtain ⟨v481, c482⟩ : ∃ v, I190 a0 13 = v := ⟨_, rfl⟩
        rw [c482] at p219
        obtain ⟨v483, c484⟩ : ∃ v, I190 a0 14 = v := ⟨_, rfl⟩
        rw [c484] at p220
        replace hF := hF.pos (by omega)
        replace hP := hP.pos (by omega)
        refine tr_istore_n dX12_readCheese_35 (by decide) (by decide) ?_
        refine tr_aload_n dX12_readCheese_36 rfl ?_
        refine tr_ldcS dX12_readCheese_37 ld12_186 ?_
        refine q_callVi hE (M' := mX12_eatsWord) (as := [_]) dX12_readCheese_39 lk12_290 inX12_eatsWord seX12_eatsWord myX12_eatsWord (by decide) ⟨by decide, by decide⟩ rfl (kR15 hS198.1 ta0) (Nat.le_of_ble_eq_true rfl) rfl rfl (by decide) (by decide) (k_X12_eatsWord hS198.1 ta0 (by decide)) ?_
        rintro v489 cn' K' N' I485 R486 L487 ⟨rfl, rfl, rfl, rfl, g488, h490, w491, -⟩
        have hS492 := hS198.tr g488 (by decide +kernel) (by decide +kernel)
        have c493 : I485 a1 3 = v41 := (g488.cell ta1 (by decide +kernel)).trans c199
        have c494 : I485 a0 13 = v481 := (g488.cell ta0 (by decide +kernel)).trans c482
        have c495 : I485 a0 14 = v483 := (g488.cell ta0 (by decide +kernel)).trans c484
        have hO496 : FrO 14 a1 T I0 I485 := hO200.st g488 (by decide +kernel)
        have ov497 := w491.over (by rw [c479]; omega)
        obtain ⟨v498, c499⟩ : ∃ v, I485 a0 9 = v := ⟨_, rfl⟩
        have b500 := iv15_9 hS492.1 ta0 c499
        obtain ⟨v501, c502⟩ : ∃ v, I485 a0 13 = v := ⟨_, rfl⟩
        obtain ⟨v503, c504⟩ : ∃ v, I485 a0 14 = v := ⟨_, rfl⟩
        (try rw [c499] at ov497)
        (try rw [c502] at ov497)
        (try rw [c504] at ov497)
        (try rw [c479] at ov497)
        (try rw [c482] at ov497)
        (try rw [c484] at ov497)
        refine tr_istore dX12_readCheese_42 (by decide) (by decide) ?_
        refine tr_aload_n dX12_readCheese_44 rfl ?_
        refine q_getI dX12_readCheese_45 fl12_99 (kR15 hS492.1 ta0) c499 ?_
        refine q_iconst dX12_readCheese_48 (by decide) ?_
        intro v505 h506
        refine q_icmp_ne 53 dX12_readCheese_49 (by decide) (fun h507 => ?_) (fun h507 => ?_)
        · skip
          exfalso; omega
        · skip
          have eF := hF.eq
          have eP := hP.eq
          obtain ⟨v508, c509⟩ : ∃ v, I485 a0 10 = v := ⟨_, rfl⟩
          have b510 := iv15_10 hS492.1 ta0 c509
          obtain ⟨v511, c512⟩ : ∃ v, I485 a0 11 = v := ⟨_, rfl⟩
          obtain ⟨y513, c514⟩ : ∃ v, L487 a0 15 = v := ⟨_, rfl⟩
          obtain ⟨v515, c516⟩ : ∃ v, I485 a0 12 = v := ⟨_, rfl⟩
          obtain ⟨v517, c518⟩ : ∃ v, I485 a0 8 = v := ⟨_, rfl⟩
          have b519 := iv15_8 hS492.1 ta0 c518
          exact tr_vret hZ dX12_readCheese_52 rfl (by decide) (by decide) ⟨rfl, rfl, rfl, rfl, rfl, hS492, (fun dr hd => (Option.some.inj (d2.symm.trans hd)) ▸ hO496), (Or.inr (⟨(by (try rw [w121]); first | done | with_reducible assumption | omega), (by (try rw [w121]); (try rw [c499]); first | done | with_reducible assumption | omega), (by (try rw [w121]); (try rw [c502]); first | done | with_reducible assumption | omega), (by (try rw [w121]); (try rw [c504]); first | done | with_reducible assumption | omega), trivial⟩)), trivial⟩
      · skip
        obtain ⟨v520, c521⟩ : ∃ v, I190 a0 9 = v := ⟨_, rfl⟩
        have b522 := iv15_9 hS198.1 ta0 c521
        rw [c521] at p225
        obtain ⟨v523, c524⟩ : ∃ v, I190 a0 13 = v := ⟨_, rfl⟩
        rw [c524] at p226
        obtain ⟨v525, c526⟩ : ∃ v, I190 a0 14 = v := ⟨_, rfl⟩
        rw [c526] at p227
        replace hF := hF.neg (by omega)
        replace hP := hP.neg (by omega)
        replace hF := hF.pos (by omega)
        replace hP := hP.pos (by omega)
        refine tr_istore_n dX12_readCheese_35 (by decide) (by decide) ?_
        refine tr_aload_n dX12_readCheese_36 rfl ?_
        refine tr_ldcS dX12_readCheese_37 ld12_186 ?_
        refine q_callVi hE (M' := mX12_eatsWord) (as := [_]) dX12_readCheese_39 lk12_290 inX12_eatsWord seX12_eatsWord myX12_eatsWord (by decide) ⟨by decide, by decide⟩ rfl (kR15 hS198.1 ta0) (Nat.le_of_ble_eq_true rfl) rfl rfl (by decide) (by decide) (k_X12_eatsWord hS198.1 ta0 (by decide)) ?_
        rintro v531 cn' K' N' I527 R528 L529 ⟨rfl, rfl, rfl, rfl, g530, h532, w533, -⟩
        have hS534 := hS198.tr g530 (by decide +kernel) (by decide +kernel)
        have c535 : I527 a1 3 = v41 := (g530.cell ta1 (by decide +kernel)).trans c199
        have c536 : I527 a0 13 = v523 := (g530.cell ta0 (by decide +kernel)).trans c524
        have c537 : I527 a0 14 = v525 := (g530.cell ta0 (by decide +kernel)).trans c526
        have hO538 : FrO 14 a1 T I0 I527 := hO200.st g530 (by decide +kernel)
        have ov539 := w533.over (by rw [c521]; omega)
        obtain ⟨v540, c541⟩ : ∃ v, I527 a0 9 = v := ⟨_, rfl⟩
        have b542 := iv15_9 hS534.1 ta0 c541
        obtain ⟨v543, c544⟩ : ∃ v, I527 a0 13 = v := ⟨_, rfl⟩
        obtain ⟨v545, c546⟩ : ∃ v, I527 a0 14 = v := ⟨_, rfl⟩
        (try rw [c541] at ov539)
        (try rw [c544] at ov539)
        (try rw [c546] at ov539)
        (try rw [c521] at ov539)
        (try rw [c524] at ov539)
        (try rw [c526] at ov539)
        refine tr_istore dX12_readCheese_42 (by decide) (by decide) ?_
        refine tr_aload_n dX12_readCheese_44 rfl ?_
        refine q_getI dX12_readCheese_45 fl12_99 (kR15 hS534.1 ta0) c541 ?_
        refine q_iconst dX12_readCheese_48 (by decide) ?_
        intro v547 h548
        refine q_icmp_ne 53 dX12_readCheese_49 (by decide) (fun h549 => ?_) (fun h549 => ?_)
        · skip
          exfalso; omega
        · skip
          have eF := hF.eq
          have eP := hP.eq
          obtain ⟨v550, c551⟩ : ∃ v, I527 a0 10 = v := ⟨_, rfl⟩
          have b552 := iv15_10 hS534.1 ta0 c551
          obtain ⟨v553, c554⟩ : ∃ v, I527 a0 11 = v := ⟨_, rfl⟩
          obtain ⟨y555, c556⟩ : ∃ v, L529 a0 15 = v := ⟨_, rfl⟩
          obtain ⟨v557, c558⟩ : ∃ v, I527 a0 12 = v := ⟨_, rfl⟩
          obtain ⟨v559, c560⟩ : ∃ v, I527 a0 8 = v := ⟨_, rfl⟩
          have b561 := iv15_8 hS534.1 ta0 c560
          exact tr_vret hZ dX12_readCheese_52 rfl (by decide) (by decide) ⟨rfl, rfl, rfl, rfl, rfl, hS534, (fun dr hd => (Option.some.inj (d2.symm.trans hd)) ▸ hO538), (Or.inr (⟨(by (try rw [w121]); first | done | with_reducible assumption | omega), (by (try rw [w121]); (try rw [c541]); first | done | with_reducible assumption | omega), (by (try rw [w121]); (try rw [c544]); first | done | with_reducible assumption | omega), (by (try rw [w121]); (try rw [c546]); first | done | with_reducible assumption | omega), trivial⟩)), trivial⟩
      · skip
        obtain ⟨v562, c563⟩ : ∃ v, I190 a0 9 = v := ⟨_, rfl⟩
        have b564 := iv15_9 hS198.1 ta0 c563
        rw [c563] at p233
        obtain ⟨v565, c566⟩ : ∃ v, I190 a0 13 = v := ⟨_, rfl⟩
        rw [c566] at p234
        obtain ⟨v567, c568⟩ : ∃ v, I190 a0 14 = v := ⟨_, rfl⟩
        rw [c568] at p235
        replace hF := hF.neg (by omega)
        replace hP := hP.neg (by omega)
        replace hF := hF.neg (by omega)
        replace hP := hP.neg (by omega)
        replace hF := hF.pos (by omega)
        replace hP := hP.pos (by omega)
        refine tr_istore_n dX12_readCheese_35 (by decide) (by decide) ?_
        refine tr_aload_n dX12_readCheese_36 rfl ?_
        refine tr_ldcS dX12_readCheese_37 ld12_186 ?_
        refine q_callVi hE (M' := mX12_eatsWord) (as := [_]) dX12_readCheese_39 lk12_290 inX12_eatsWord seX12_eatsWord myX12_eatsWord (by decide) ⟨by decide, by decide⟩ rfl (kR15 hS198.1 ta0) (Nat.le_of_ble_eq_true rfl) rfl rfl (by decide) (by decide) (k_X12_eatsWord hS198.1 ta0 (by decide)) ?_
        rintro v573 cn' K' N' I569 R570 L571 ⟨rfl, rfl, rfl, rfl, g572, h574, w575, -⟩
        have hS576 := hS198.tr g572 (by decide +kernel) (by decide +kernel)
        have c577 : I569 a1 3 = v41 := (g572.cell ta1 (by decide +kernel)).trans c199
        have c578 : I569 a0 13 = v565 := (g572.cell ta0 (by decide +kernel)).trans c566
        have c579 : I569 a0 14 = v567 := (g572.cell ta0 (by decide +kernel)).trans c568
        have hO580 : FrO 14 a1 T I0 I569 := hO200.st g572 (by decide +kernel)
        have ov581 := w575.over (by rw [c563]; omega)
        obtain ⟨v582, c583⟩ : ∃ v, I569 a0 9 = v := ⟨_, rfl⟩
        have b584 := iv15_9 hS576.1 ta0 c583
        obtain ⟨v585, c586⟩ : ∃ v, I569 a0 13 = v := ⟨_, rfl⟩
        obtain ⟨v587, c588⟩ : ∃ v, I569 a0 14 = v := ⟨_, rfl⟩
        (try rw [c583] at ov581)
        (try rw [c586] at ov581)
        (try rw [c588] at ov581)
        (try rw [c563] at ov581)
        (try rw [c566] at ov581)
        (try rw [c568] at ov581)
        refine tr_istore dX12_readCheese_42 (by decide) (by decide) ?_
        refine tr_aload_n dX12_readCheese_44 rfl ?_
        refine q_getI dX12_readCheese_45 fl12_99 (kR15 hS576.1 ta0) c583 ?_
        refine q_iconst dX12_readCheese_48 (by decide) ?_
        intro v589 h590
        refine q_icmp_ne 53 dX12_readCheese_49 (by decide) (fun h591 => ?_) (fun h591 => ?_)
        · skip
          exfalso; omega
        · skip
          have eF := hF.eq
          have eP := hP.eq
          obtain ⟨v592, c593⟩ : ∃ v, I569 a0 10 = v := ⟨_, rfl⟩
          have b594 := iv15_10 hS576.1 ta0 c593
          obtain ⟨v595, c596⟩ : ∃ v, I569 a0 11 = v := ⟨_, rfl⟩
          obtain ⟨y597, c598⟩ : ∃ v, L571 a0 15 = v := ⟨_, rfl⟩
          obtain ⟨v599, c600⟩ : ∃ v, I569 a0 12 = v := ⟨_, rfl⟩
          obtain ⟨v601, c602⟩ : ∃ v, I569 a0 8 = v := ⟨_, rfl⟩
          have b603 := iv15_8 hS576.1 ta0 c602
          exact tr_vret hZ dX12_readCheese_52 rfl (by decide) (by decide) ⟨rfl, rfl, rfl, rfl, rfl, hS576, (fun dr hd => (Option.some.inj (d2.symm.trans hd)) ▸ hO580), (Or.inr (⟨(by (try rw [w121]); first | done | with_reducible assumption | omega), (by (try rw [w121]); (try rw [c583]); first | done | with_reducible assumption | omega), (by (try rw [w121]); (try rw [c586]); first | done | with_reducible assumption | omega), (by (try rw [w121]); (try rw [c588]); first | done | with_reducible assumption | omega), trivial⟩)), trivial⟩
    · skip
      obtain ⟨v604, c605⟩ : ∃ v, I131 a0 9 = v := ⟨_, rfl⟩
      have b606 := iv15_9 hS139.1 ta0 c605
      rw [c605] at p157
      obtain ⟨v607, c608⟩ : ∃ v, I131 a0 13 = v := ⟨_, rfl⟩
      rw [c608] at p158
      obtain ⟨v609, c610⟩ : ∃ v, I131 a0 14 = v := ⟨_, rfl⟩
      rw [c610] at p159
      replace hF := hF.pos (by omega)
      replace hP := hP.pos (by omega)
      refine tr_lstore_n dX12_readCheese_17 (by decide) (by decide) (by decide) ?_
      refine tr_aload_n dX12_readCheese_18 rfl ?_
      refine tr_ldcwS dX12_readCheese_19 ld12_289 ?_
      refine q_iconst dX12_readCheese_22 (by decide) ?_
      intro v611 h612
      refine tr_aload_n dX12_readCheese_23 rfl ?_
      refine tr_getR dX12_readCheese_24 fl12_188 (kR15 hS139.1 ta0) d2 ?_
      refine q_getI dX12_readCheese_27 fl12_263 (kR14 hS139.1 ta1) ((hS139.cell ta1 (by decide +kernel)).trans c34) ?_
      refine q_iconst dX12_readCheese_30 (by decide) ?_
      intro v613 h614
      refine q_isubE dX12_readCheese_31 (by intros; omega) ?_
      intro v615 h616
      refine q_callVi hE (M' := mX12_readPart) (as := [_, _, _]) dX12_readCheese_32 lk12_249 inX12_readPart seX12_readPart myX12_readPart (by decide) ⟨by decide, by decide⟩ rfl (kR15 hS139.1 ta0) (Nat.le_of_ble_eq_true rfl) rfl rfl (by decide) (by decide) (k_X12_readPart hS139.1 ta0 (by decide)) ?_
      rintro v621 cn' K' N' I617 R618 L619 ⟨rfl, rfl, rfl, rfl, g620, p622, w623, -⟩
      have hS624 := hS139.tr g620 (by decide +kernel) (by decide +kernel)
      have c625 : I617 a1 3 = v41 := (g620.cell ta1 (by decide +kernel)).trans c140
      have b626 : 0 ≤ v621.toInt ∧ v621.toInt ≤ 3 := by omega
      clear p622
      have hO627 : FrO 14 a1 T I0 I617 := hO141.st g620 (by decide +kernel)
      have ov628 := w623.over (by rw [c605]; omega)
      obtain ⟨v629, c630⟩ : ∃ v, I617 a0 9 = v := ⟨_, rfl⟩
      have b631 := iv15_9 hS624.1 ta0 c630
      obtain ⟨v632, c633⟩ : ∃ v, I617 a0 13 = v := ⟨_, rfl⟩
      obtain ⟨v634, c635⟩ : ∃ v, I617 a0 14 = v := ⟨_, rfl⟩
      (try rw [c630] at ov628)
      (try rw [c633] at ov628)
      (try rw [c635] at ov628)
      (try rw [c605] at ov628)
      (try rw [c608] at ov628)
      (try rw [c610] at ov628)
      refine tr_istore_n dX12_readCheese_35 (by decide) (by decide) ?_
      refine tr_aload_n dX12_readCheese_36 rfl ?_
      refine tr_ldcS dX12_readCheese_37 ld12_186 ?_
      refine q_callVi hE (M' := mX12_eatsWord) (as := [_]) dX12_readCheese_39 lk12_290 inX12_eatsWord seX12_eatsWord myX12_eatsWord (by decide) ⟨by decide, by decide⟩ rfl (kR15 hS624.1 ta0) (Nat.le_of_ble_eq_true rfl) rfl rfl (by decide) (by decide) (k_X12_eatsWord hS624.1 ta0 (by decide)) ?_
      rintro v640 cn' K' N' I636 R637 L638 ⟨rfl, rfl, rfl, rfl, g639, h641, w642, -⟩
      have hS643 := hS624.tr g639 (by decide +kernel) (by decide +kernel)
      have c644 : I636 a1 3 = v41 := (g639.cell ta1 (by decide +kernel)).trans c625
      have c645 : I636 a0 13 = v632 := (g639.cell ta0 (by decide +kernel)).trans c633
      have c646 : I636 a0 14 = v634 := (g639.cell ta0 (by decide +kernel)).trans c635
      have hO647 : FrO 14 a1 T I0 I636 := hO627.st g639 (by decide +kernel)
      have ov648 := w642.over (by rw [c630]; omega)
      obtain ⟨v649, c650⟩ : ∃ v, I636 a0 9 = v := ⟨_, rfl⟩
      have b651 := iv15_9 hS643.1 ta0 c650
      obtain ⟨v652, c653⟩ : ∃ v, I636 a0 13 = v := ⟨_, rfl⟩
      obtain ⟨v654, c655⟩ : ∃ v, I636 a0 14 = v := ⟨_, rfl⟩
      (try rw [c650] at ov648)
      (try rw [c653] at ov648)
      (try rw [c655] at ov648)
      (try rw [c630] at ov648)
      (try rw [c633] at ov648)
      (try rw [c635] at ov648)
      refine tr_istore dX12_readCheese_42 (by decide) (by decide) ?_
      refine tr_aload_n dX12_readCheese_44 rfl ?_
      refine q_getI dX12_readCheese_45 fl12_99 (kR15 hS643.1 ta0) c650 ?_
      refine q_iconst dX12_readCheese_48 (by decide) ?_
      intro v656 h657
      refine q_icmp_ne 53 dX12_readCheese_49 (by decide) (fun h658 => ?_) (fun h658 => ?_)
      · skip
        exfalso; omega
      · skip
        have eF := hF.eq
        have eP := hP.eq
        obtain ⟨v659, c660⟩ : ∃ v, I636 a0 10 = v := ⟨_, rfl⟩
        have b661 := iv15_10 hS643.1 ta0 c660
        obtain ⟨v662, c663⟩ : ∃ v, I636 a0 11 = v := ⟨_, rfl⟩
        obtain ⟨y664, c665⟩ : ∃ v, L638 a0 15 = v := ⟨_, rfl⟩
        obtain ⟨v666, c667⟩ : ∃ v, I636 a0 12 = v := ⟨_, rfl⟩
        obtain ⟨v668, c669⟩ : ∃ v, I636 a0 8 = v := ⟨_, rfl⟩
        have b670 := iv15_8 hS643.1 ta0 c669
        exact tr_vret hZ dX12_readCheese_52 rfl (by decide) (by decide) ⟨rfl, rfl, rfl, rfl, rfl, hS643, (fun dr hd => (Option.some.inj (d2.symm.trans hd)) ▸ hO647), (Or.inr (⟨(by (try rw [w121]); first | done | with_reducible assumption | omega), (by (try rw [w121]); (try rw [c650]); first | done | with_reducible assumption | omega), (by (try rw [w121]); (try rw [c653]); first | done | with_reducible assumption | omega), (by (try rw [w121]); (try rw [c655]); first | done | with_reducible assumption | omega), trivial⟩)), trivial⟩
    · skip
      obtain ⟨v671, c672⟩ : ∃ v, I131 a0 9 = v := ⟨_, rfl⟩
      have b673 := iv15_9 hS139.1 ta0 c672
      rw [c672] at p162
      obtain ⟨v674, c675⟩ : ∃ v, I131 a0 13 = v := ⟨_, rfl⟩
      rw [c675] at p163
      obtain ⟨v676, c677⟩ : ∃ v, I131 a0 14 = v := ⟨_, rfl⟩
      rw [c677] at p164
      replace hF := hF.neg (by omega)
      replace hP := hP.neg (by omega)
      replace hF := hF.pos (by omega)
      replace hP := hP.pos (by omega)
      refine tr_lstore_n dX12_readCheese_17 (by decide) (by decide) (by decide) ?_
      refine tr_aload_n dX12_readCheese_18 rfl ?_
      refine tr_ldcwS dX12_readCheese_19 ld12_289 ?_
      refine q_iconst dX12_readCheese_22 (by decide) ?_
      intro v678 h679
      refine tr_aload_n dX12_readCheese_23 rfl ?_
      refine tr_getR dX12_readCheese_24 fl12_188 (kR15 hS139.1 ta0) d2 ?_
      refine q_getI dX12_readCheese_27 fl12_263 (kR14 hS139.1 ta1) ((hS139.cell ta1 (by decide +kernel)).trans c34) ?_
      refine q_iconst dX12_readCheese_30 (by decide) ?_
      intro v680 h681
      refine q_isubE dX12_readCheese_31 (by intros; omega) ?_
      intro v682 h683
      refine q_callVi hE (M' := mX12_readPart) (as := [_, _, _]) dX12_readCheese_32 lk12_249 inX12_readPart seX12_readPart myX12_readPart (by decide) ⟨by decide, by decide⟩ rfl (kR15 hS139.1 ta0) (Nat.le_of_ble_eq_true rfl) rfl rfl (by decide) (by decide) (k_X12_readPart hS139.1 ta0 (by decide)) ?_
      rintro v688 cn' K' N' I684 R685 L686 ⟨rfl, rfl, rfl, rfl, g687, p689, w690, -⟩
      have hS691 := hS139.tr g687 (by decide +kernel) (by decide +kernel)
      have c692 : I684 a1 3 = v41 := (g687.cell ta1 (by decide +kernel)).trans c140
      have b693 : 0 ≤ v688.toInt ∧ v688.toInt ≤ 3 := by omega
      clear p689
      have hO694 : FrO 14 a1 T I0 I684 := hO141.st g687 (by decide +kernel)
      have ov695 := w690.over (by rw [c672]; omega)
      obtain ⟨v696, c697⟩ : ∃ v, I684 a0 9 = v := ⟨_, rfl⟩
      have b698 := iv15_9 hS691.1 ta0 c697
      obtain ⟨v699, c700⟩ : ∃ v, I684 a0 13 = v := ⟨_, rfl⟩
      obtain ⟨v701, c702⟩ : ∃ v, I684 a0 14 = v := ⟨_, rfl⟩
      (try rw [c697] at ov695)
      (try rw [c700] at ov695)
      (try rw [c702] at ov695)
      (try rw [c672] at ov695)
      (try rw [c675] at ov695)
      (try rw [c677] at ov695)
      refine tr_istore_n dX12_readCheese_35 (by decide) (by decide) ?_
      refine tr_aload_n dX12_readCheese_36 rfl ?_
      refine tr_ldcS dX12_readCheese_37 ld12_186 ?_
      refine q_callVi hE (M' := mX12_eatsWord) (as := [_]) dX12_readCheese_39 lk12_290 inX12_eatsWord seX12_eatsWord myX12_eatsWord (by decide) ⟨by decide, by decide⟩ rfl (kR15 hS691.1 ta0) (Nat.le_of_ble_eq_true rfl) rfl rfl (by decide) (by decide) (k_X12_eatsWord hS691.1 ta0 (by decide)) ?_
      rintro v707 cn' K' N' I703 R704 L705 ⟨rfl, rfl, rfl, rfl, g706, h708, w709, -⟩
      have hS710 := hS691.tr g706 (by decide +kernel) (by decide +kernel)
      have c711 : I703 a1 3 = v41 := (g706.cell ta1 (by decide +kernel)).trans c692
      have c712 : I703 a0 13 = v699 := (g706.cell ta0 (by decide +kernel)).trans c700
      have c713 : I703 a0 14 = v701 := (g706.cell ta0 (by decide +kernel)).trans c702
      have hO714 : FrO 14 a1 T I0 I703 := hO694.st g706 (by decide +kernel)
      have ov715 := w709.over (by rw [c697]; omega)
      obtain ⟨v716, c717⟩ : ∃ v, I703 a0 9 = v := ⟨_, rfl⟩
      have b718 := iv15_9 hS710.1 ta0 c717
      obtain ⟨v719, c720⟩ : ∃ v, I703 a0 13 = v := ⟨_, rfl⟩
      obtain ⟨v721, c722⟩ : ∃ v, I703 a0 14 = v := ⟨_, rfl⟩
      (try rw [c717] at ov715)
      (try rw [c720] at ov715)
      (try rw [c722] at ov715)
      (try rw [c697] at ov715)
      (try rw [c700] at ov715)
      (try rw [c702] at ov715)
      refine tr_istore dX12_readCheese_42 (by decide) (by decide) ?_
      refine tr_aload_n dX12_readCheese_44 rfl ?_
      refine q_getI dX12_readCheese_45 fl12_99 (kR15 hS710.1 ta0) c717 ?_
      refine q_iconst dX12_readCheese_48 (by decide) ?_
      intro v723 h724
      refine q_icmp_ne 53 dX12_readCheese_49 (by decide) (fun h725 => ?_) (fun h725 => ?_)
      · skip
        exfalso; omega
      · skip
        have eF := hF.eq
        have eP := hP.eq
        obtain ⟨v726, c727⟩ : ∃ v, I703 a0 10 = v := ⟨_, rfl⟩
        have b728 := iv15_10 hS710.1 ta0 c727
        obtain ⟨v729, c730⟩ : ∃ v, I703 a0 11 = v := ⟨_, rfl⟩
        obtain ⟨y731, c732⟩ : ∃ v, L705 a0 15 = v := ⟨_, rfl⟩
        obtain ⟨v733, c734⟩ : ∃ v, I703 a0 12 = v := ⟨_, rfl⟩
        obtain ⟨v735, c736⟩ : ∃ v, I703 a0 8 = v := ⟨_, rfl⟩
        have b737 := iv15_8 hS710.1 ta0 c736
        exact tr_vret hZ dX12_readCheese_52 rfl (by decide) (by decide) ⟨rfl, rfl, rfl, rfl, rfl, hS710, (fun dr hd => (Option.some.inj (d2.symm.trans hd)) ▸ hO714), (Or.inr (⟨(by (try rw [w121]); first | done | with_reducible assumption | omega), (by (try rw [w121]); (try rw [c717]); first | done | with_reducible assumption | omega), (by (try rw [w121]); (try rw [c720]); first | done | with_reducible assumption | omega), (by (try rw [w121]); (try rw [c722]); first | done | with_reducible assumption | omega), trivial⟩)), trivial⟩
  · skip
    obtain ⟨v738, c739⟩ : ∃ v, I68 a0 9 = v := ⟨_, rfl⟩
    have b740 := iv15_9 hS76.1 ta0 c739
    rw [c739] at p91
    obtain ⟨v741, c742⟩ : ∃ v, I68 a0 13 = v := ⟨_, rfl⟩
    rw [c742] at p92
    obtain ⟨v743, c744⟩ : ∃ v, I68 a0 14 = v := ⟨_, rfl⟩
    rw [c744] at p93
    have p745 := p61
    unfold Q7M at p745
    replace hF := hF.pos (by omega)
    replace hP := hP.pos (by omega)
    clear p745
    refine tr_aload_n dX12_readCheese_13 rfl ?_
    refine q_callVl hE (M' := mX12_readFresh) (as := []) dX12_readCheese_14 lk12_285 inX12_readFresh seX12_readFresh myX12_readFresh (by decide) ⟨by decide, by decide⟩ rfl (kR15 hS76.1 ta0) (Nat.le_of_ble_eq_true rfl) rfl rfl (by decide) (by decide) (k_X12_readFresh hS76.1 ta0 ⟨_, d2⟩) ?_
    rintro y750 cn' K' N' I746 R747 L748 ⟨rfl, rfl, rfl, rfl, g749, w751, -⟩
    have hS752 := hS76.tr g749 (by decide +kernel) (by decide +kernel)
    have c753 : I746 a1 3 = v41 := (g749.cell ta1 (by decide +kernel)).trans c77
    have hO754 : FrO 14 a1 T I0 I746 := hO78.st g749 (by decide +kernel)
    have ov755 := w751.over (by rw [c739]; omega)
    obtain ⟨v756, c757⟩ : ∃ v, I746 a0 9 = v := ⟨_, rfl⟩
    have b758 := iv15_9 hS752.1 ta0 c757
    obtain ⟨v759, c760⟩ : ∃ v, I746 a0 13 = v := ⟨_, rfl⟩
    obtain ⟨v761, c762⟩ : ∃ v, I746 a0 14 = v := ⟨_, rfl⟩
    (try rw [c757] at ov755)
    (try rw [c760] at ov755)
    (try rw [c762] at ov755)
    (try rw [c739] at ov755)
    (try rw [c742] at ov755)
    (try rw [c744] at ov755)
    refine tr_lstore_n dX12_readCheese_17 (by decide) (by decide) (by decide) ?_
    refine tr_aload_n dX12_readCheese_18 rfl ?_
    refine tr_ldcwS dX12_readCheese_19 ld12_289 ?_
    refine q_iconst dX12_readCheese_22 (by decide) ?_
    intro v763 h764
    refine tr_aload_n dX12_readCheese_23 rfl ?_
    refine tr_getR dX12_readCheese_24 fl12_188 (kR15 hS752.1 ta0) d2 ?_
    refine q_getI dX12_readCheese_27 fl12_263 (kR14 hS752.1 ta1) ((hS752.cell ta1 (by decide +kernel)).trans c34) ?_
    refine q_iconst dX12_readCheese_30 (by decide) ?_
    intro v765 h766
    refine q_isubE dX12_readCheese_31 (by intros; omega) ?_
    intro v767 h768
    refine q_callVi hE (M' := mX12_readPart) (as := [_, _, _]) dX12_readCheese_32 lk12_249 inX12_readPart seX12_readPart myX12_readPart (by decide) ⟨by decide, by decide⟩ rfl (kR15 hS752.1 ta0) (Nat.le_of_ble_eq_true rfl) rfl rfl (by decide) (by decide) (k_X12_readPart hS752.1 ta0 (by decide)) ?_
    rintro v773 cn' K' N' I769 R770 L771 ⟨rfl, rfl, rfl, rfl, g772, p774, w775, -⟩
    have hS776 := hS752.tr g772 (by decide +kernel) (by decide +kernel)
    have c777 : I769 a1 3 = v41 := (g772.cell ta1 (by decide +kernel)).trans c753
    have b778 : 0 ≤ v773.toInt ∧ v773.toInt ≤ 3 := by omega
    clear p774
    have hO779 : FrO 14 a1 T I0 I769 := hO754.st g772 (by decide +kernel)
    have ov780 := w775.over (by rw [c757]; omega)
    obtain ⟨v781, c782⟩ : ∃ v, I769 a0 9 = v := ⟨_, rfl⟩
    have b783 := iv15_9 hS776.1 ta0 c782
    obtain ⟨v784, c785⟩ : ∃ v, I769 a0 13 = v := ⟨_, rfl⟩
    obtain ⟨v786, c787⟩ : ∃ v, I769 a0 14 = v := ⟨_, rfl⟩
    (try rw [c782] at ov780)
    (try rw [c785] at ov780)
    (try rw [c787] at ov780)
    (try rw [c757] at ov780)
    (try rw [c760] at ov780)
    (try rw [c762] at ov780)
    refine tr_istore_n dX12_readCheese_35 (by decide) (by decide) ?_
    refine tr_aload_n dX12_readCheese_36 rfl ?_
    refine tr_ldcS dX12_readCheese_37 ld12_186 ?_
    refine q_callVi hE (M' := mX12_eatsWord) (as := [_]) dX12_readCheese_39 lk12_290 inX12_eatsWord seX12_eatsWord myX12_eatsWord (by decide) ⟨by decide, by decide⟩ rfl (kR15 hS776.1 ta0) (Nat.le_of_ble_eq_true rfl) rfl rfl (by decide) (by decide) (k_X12_eatsWord hS776.1 ta0 (by decide)) ?_
    rintro v792 cn' K' N' I788 R789 L790 ⟨rfl, rfl, rfl, rfl, g791, h793, w794, -⟩
    have hS795 := hS776.tr g791 (by decide +kernel) (by decide +kernel)
    have c796 : I788 a1 3 = v41 := (g791.cell ta1 (by decide +kernel)).trans c777
    have c797 : I788 a0 13 = v784 := (g791.cell ta0 (by decide +kernel)).trans c785
    have c798 : I788 a0 14 = v786 := (g791.cell ta0 (by decide +kernel)).trans c787
    have hO799 : FrO 14 a1 T I0 I788 := hO779.st g791 (by decide +kernel)
    have ov800 := w794.over (by rw [c782]; omega)
    obtain ⟨v801, c802⟩ : ∃ v, I788 a0 9 = v := ⟨_, rfl⟩
    have b803 := iv15_9 hS795.1 ta0 c802
    obtain ⟨v804, c805⟩ : ∃ v, I788 a0 13 = v := ⟨_, rfl⟩
    obtain ⟨v806, c807⟩ : ∃ v, I788 a0 14 = v := ⟨_, rfl⟩
    (try rw [c802] at ov800)
    (try rw [c805] at ov800)
    (try rw [c807] at ov800)
    (try rw [c782] at ov800)
    (try rw [c785] at ov800)
    (try rw [c787] at ov800)
    refine tr_istore dX12_readCheese_42 (by decide) (by decide) ?_
    refine tr_aload_n dX12_readCheese_44 rfl ?_
    refine q_getI dX12_readCheese_45 fl12_99 (kR15 hS795.1 ta0) c802 ?_
    refine q_iconst dX12_readCheese_48 (by decide) ?_
    intro v808 h809
    refine q_icmp_ne 53 dX12_readCheese_49 (by decide) (fun h810 => ?_) (fun h810 => ?_)
    · skip
      exfalso; omega
    · skip
      have eF := hF.eq
      have eP := hP.eq
      obtain ⟨v811, c812⟩ : ∃ v, I788 a0 10 = v := ⟨_, rfl⟩
      have b813 := iv15_10 hS795.1 ta0 c812
      obtain ⟨v814, c815⟩ : ∃ v, I788 a0 11 = v := ⟨_, rfl⟩
      obtain ⟨y816, c817⟩ : ∃ v, L790 a0 15 = v := ⟨_, rfl⟩
      obtain ⟨v818, c819⟩ : ∃ v, I788 a0 12 = v := ⟨_, rfl⟩
      obtain ⟨v820, c821⟩ : ∃ v, I788 a0 8 = v := ⟨_, rfl⟩
      have b822 := iv15_8 hS795.1 ta0 c821
      exact tr_vret hZ dX12_readCheese_52 rfl (by decide) (by decide) ⟨rfl, rfl, rfl, rfl, rfl, hS795, (fun dr hd => (Option.some.inj (d2.symm.trans hd)) ▸ hO799), (Or.inr (⟨(by first | done | with_reducible assumption | omega), (by (try rw [c802]); first | done | with_reducible assumption | omega), (by (try rw [c805]); first | done | with_reducible assumption | omega), (by (try rw [c807]); first | done | with_reducible assumption | omega), trivial⟩)), trivial⟩
  · skip
    obtain ⟨v823, c824⟩ : ∃ v, I68 a0 9 = v := ⟨_, rfl⟩
    have b825 := iv15_9 hS76.1 ta0 c824
    rw [c824] at p96
    obtain ⟨v826, c827⟩ : ∃ v, I68 a0 13 = v := ⟨_, rfl⟩
    rw [c827] at p97
    obtain ⟨v828, c829⟩ : ∃ v, I68 a0 14 = v := ⟨_, rfl⟩
    rw [c829] at p98
    have p830 := p61
    unfold Q7M at p830
    replace hF := hF.neg (by omega)
    replace hP := hP.neg (by omega)
    replace hF := hF.pos (by omega)
    replace hP := hP.pos (by omega)
    clear p830
    refine tr_aload_n dX12_readCheese_13 rfl ?_
    refine q_callVl hE (M' := mX12_readFresh) (as := []) dX12_readCheese_14 lk12_285 inX12_readFresh seX12_readFresh myX12_readFresh (by decide) ⟨by decide, by decide⟩ rfl (kR15 hS76.1 ta0) (Nat.le_of_ble_eq_true rfl) rfl rfl (by decide) (by decide) (k_X12_readFresh hS76.1 ta0 ⟨_, d2⟩) ?_
    rintro y835 cn' K' N' I831 R832 L833 ⟨rfl, rfl, rfl, rfl, g834, w836, -⟩
    have hS837 := hS76.tr g834 (by decide +kernel) (by decide +kernel)
    have c838 : I831 a1 3 = v41 := (g834.cell ta1 (by decide +kernel)).trans c77
    have hO839 : FrO 14 a1 T I0 I831 := hO78.st g834 (by decide +kernel)
    have ov840 := w836.over (by rw [c824]; omega)
    obtain ⟨v841, c842⟩ : ∃ v, I831 a0 9 = v := ⟨_, rfl⟩
    have b843 := iv15_9 hS837.1 ta0 c842
    obtain ⟨v844, c845⟩ : ∃ v, I831 a0 13 = v := ⟨_, rfl⟩
    obtain ⟨v846, c847⟩ : ∃ v, I831 a0 14 = v := ⟨_, rfl⟩
    (try rw [c842] at ov840)
    (try rw [c845] at ov840)
    (try rw [c847] at ov840)
    (try rw [c824] at ov840)
    (try rw [c827] at ov840)
    (try rw [c829] at ov840)
    refine tr_lstore_n dX12_readCheese_17 (by decide) (by decide) (by decide) ?_
    refine tr_aload_n dX12_readCheese_18 rfl ?_
    refine tr_ldcwS dX12_readCheese_19 ld12_289 ?_
    refine q_iconst dX12_readCheese_22 (by decide) ?_
    intro v848 h849
    refine tr_aload_n dX12_readCheese_23 rfl ?_
    refine tr_getR dX12_readCheese_24 fl12_188 (kR15 hS837.1 ta0) d2 ?_
    refine q_getI dX12_readCheese_27 fl12_263 (kR14 hS837.1 ta1) ((hS837.cell ta1 (by decide +kernel)).trans c34) ?_
    refine q_iconst dX12_readCheese_30 (by decide) ?_
    intro v850 h851
    refine q_isubE dX12_readCheese_31 (by intros; omega) ?_
    intro v852 h853
    refine q_callVi hE (M' := mX12_readPart) (as := [_, _, _]) dX12_readCheese_32 lk12_249 inX12_readPart seX12_readPart myX12_readPart (by decide) ⟨by decide, by decide⟩ rfl (kR15 hS837.1 ta0) (Nat.le_of_ble_eq_true rfl) rfl rfl (by decide) (by decide) (k_X12_readPart hS837.1 ta0 (by decide)) ?_
    rintro v858 cn' K' N' I854 R855 L856 ⟨rfl, rfl, rfl, rfl, g857, p859, w860, -⟩
    have hS861 := hS837.tr g857 (by decide +kernel) (by decide +kernel)
    have c862 : I854 a1 3 = v41 := (g857.cell ta1 (by decide +kernel)).trans c838
    have b863 : 0 ≤ v858.toInt ∧ v858.toInt ≤ 3 := by omega
    clear p859
    have hO864 : FrO 14 a1 T I0 I854 := hO839.st g857 (by decide +kernel)
    have ov865 := w860.over (by rw [c842]; omega)
    obtain ⟨v866, c867⟩ : ∃ v, I854 a0 9 = v := ⟨_, rfl⟩
    have b868 := iv15_9 hS861.1 ta0 c867
    obtain ⟨v869, c870⟩ : ∃ v, I854 a0 13 = v := ⟨_, rfl⟩
    obtain ⟨v871, c872⟩ : ∃ v, I854 a0 14 = v := ⟨_, rfl⟩
    (try rw [c867] at ov865)
    (try rw [c870] at ov865)
    (try rw [c872] at ov865)
    (try rw [c842] at ov865)
    (try rw [c845] at ov865)
    (try rw [c847] at ov865)
    refine tr_istore_n dX12_readCheese_35 (by decide) (by decide) ?_
    refine tr_aload_n dX12_readCheese_36 rfl ?_
    refine tr_ldcS dX12_readCheese_37 ld12_186 ?_
    refine q_callVi hE (M' := mX12_eatsWord) (as := [_]) dX12_readCheese_39 lk12_290 inX12_eatsWord seX12_eatsWord myX12_eatsWord (by decide) ⟨by decide, by decide⟩ rfl (kR15 hS861.1 ta0) (Nat.le_of_ble_eq_true rfl) rfl rfl (by decide) (by decide) (k_X12_eatsWord hS861.1 ta0 (by decide)) ?_
    rintro v877 cn' K' N' I873 R874 L875 ⟨rfl, rfl, rfl, rfl, g876, h878, w879, -⟩
    have hS880 := hS861.tr g876 (by decide +kernel) (by decide +kernel)
    have c881 : I873 a1 3 = v41 := (g876.cell ta1 (by decide +kernel)).trans c862
    have c882 : I873 a0 13 = v869 := (g876.cell ta0 (by decide +kernel)).trans c870
    have c883 : I873 a0 14 = v871 := (g876.cell ta0 (by decide +kernel)).trans c872
    have hO884 : FrO 14 a1 T I0 I873 := hO864.st g876 (by decide +kernel)
    have ov885 := w879.over (by rw [c867]; omega)
    obtain ⟨v886, c887⟩ : ∃ v, I873 a0 9 = v := ⟨_, rfl⟩
    have b888 := iv15_9 hS880.1 ta0 c887
    obtain ⟨v889, c890⟩ : ∃ v, I873 a0 13 = v := ⟨_, rfl⟩
    obtain ⟨v891, c892⟩ : ∃ v, I873 a0 14 = v := ⟨_, rfl⟩
    (try rw [c887] at ov885)
    (try rw [c890] at ov885)
    (try rw [c892] at ov885)
    (try rw [c867] at ov885)
    (try rw [c870] at ov885)
    (try rw [c872] at ov885)
    refine tr_istore dX12_readCheese_42 (by decide) (by decide) ?_
    refine tr_aload_n dX12_readCheese_44 rfl ?_
    refine q_getI dX12_readCheese_45 fl12_99 (kR15 hS880.1 ta0) c887 ?_
    refine q_iconst dX12_readCheese_48 (by decide) ?_
    intro v893 h894
    refine q_icmp_ne 53 dX12_readCheese_49 (by decide) (fun h895 => ?_) (fun h895 => ?_)
    · skip
      exfalso; omega
    · skip
      have eF := hF.eq
      have eP := hP.eq
      obtain ⟨v896, c897⟩ : ∃ v, I873 a0 10 = v := ⟨_, rfl⟩
      have b898 := iv15_10 hS880.1 ta0 c897
      obtain ⟨v899, c900⟩ : ∃ v, I873 a0 11 = v := ⟨_, rfl⟩
      obtain ⟨y901, c902⟩ : ∃ v, L875 a0 15 = v := ⟨_, rfl⟩
      obtain ⟨v903, c904⟩ : ∃ v, I873 a0 12 = v := ⟨_, rfl⟩
      obtain ⟨v905, c906⟩ : ∃ v, I873 a0 8 = v := ⟨_, rfl⟩
      have b907 := iv15_8 hS880.1 ta0 c906
      exact tr_vret hZ dX12_readCheese_52 rfl (by decide) (by decide) ⟨rfl, rfl, rfl, rfl, rfl, hS880, (fun dr hd => (Option.some.inj (d2.symm.trans hd)) ▸ hO884), (Or.inr (⟨(by first | done | with_reducible assumption | omega), (by (try rw [c887]); first | done | with_reducible assumption | omega), (by (try rw [c890]); first | done | with_reducible assumption | omega), (by (try rw [c892]); first | done | with_reducible assumption | omega), trivial⟩)), trivial⟩
