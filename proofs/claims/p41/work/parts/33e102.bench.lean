set_option maxHeartbeats 4000000 in
theorem fk_X12_light {l : Launch} {T : Nat → Nat} {cn : Nat} {K N : Nat → Nat} {I0 : cz_I} {R0 : cz_R} {L0 : cz_L} {d : Int} (hW0 : Wf T cn K N I0 R0 d) (gX : Nat → Nat → Int) {a0 : Nat} (ta0 : T a0 = 15) {x1 : Int32} {x2 : Int32} {x3 : Int32} (hx3 : 0 ≤ x3.toInt ∧ x3.toInt ≤ 1) (hX : EvY I0 R0 a0 gX) : ConE l mX12_light [.ref a0, .int x1, .int x2, .int x3] cn K N I0 R0 L0 (ca_i (fun v cn' K' N' I' R' L' => cn = cn' ∧ K = K' ∧ N = N' ∧ R0 = R' ∧ L0 = L' ∧ St T cn K N d wik_X12_light wrk_X12_light I0 R0 I' R0 ∧ Cs_X12_light T I0 R0 a0 gX x1 x2 x3 v I' R0 ∧ True)) := by
  refine ConE.of (by decide +kernel) rfl (Nat.le_of_ble_eq_true rfl) rfl (fun X hX hZ hE => ?_)
  subst hX
  have hS0 : St T cn K N d wik_X12_light wrk_X12_light I0 R0 I0 R0 := St.rf0 hW0
  obtain ⟨a1, d2, ta1⟩ := rf15_16 hW0 ta0
  rcases rf15_3 hW0 ta0 with d4 | ⟨a3, d4, ta3⟩
  · skip
    refine tr_aload_n dX12_light_0 rfl ?_
    refine q_iconst dX12_light_1 (by decide) ?_
    intro v5 h6
    refine q_putI dX12_light_2 fl12_70 (kR15 hS0.1 ta0) (Or.inl rfl) hS0 ta0 (iokF rfl) rfl (by decide +kernel) ?_
    intro I7 hS8 e9 f10
    refine tr_aload_n dX12_light_5 rfl ?_
    refine tr_iload_n dX12_light_6 rfl ?_
    refine q_callVi hE (M' := mX12_isHut) (as := [_]) dX12_light_7 lk12_446 inX12_isHut seX12_isHut myX12_isHut (by decide) ⟨by decide, by decide⟩ rfl (kR15 hS8.1 ta0) (Nat.le_of_ble_eq_true rfl) rfl rfl (by decide) (by decide) (fk_X12_isHut hS8.1  ta0) ?_
    rintro v16 cn' K' N' I11 R12 L13 ⟨rfl, rfl, rfl, rfl, rfl, rfl, h17, dj18, -⟩
    rcases dj18 with ⟨p19, rp20, -⟩ | ⟨p21, p22, p23, rp24, -⟩ | ⟨p25, p26, rp27, -⟩
    · skip
      refine q_if_ne 19 dX12_light_10 (by decide) (fun h28 => ?_) (fun h28 => ?_)
      · skip
        exfalso; omega
      · skip
        refine tr_aload_n dX12_light_13 rfl ?_
        refine q_iconst dX12_light_14 (by decide) ?_
        intro v29 h30
        refine q_callVi hE (M' := mX12_refused) (as := [_]) dX12_light_15 lk12_76 inX12_refused seX12_refused myX12_refused (by decide) ⟨by decide, by decide⟩ rfl (kR15 hS8.1 ta0) (Nat.le_of_ble_eq_true rfl) rfl rfl (by decide) (by decide) (fk_X12_refused hS8.1  ta0) ?_
        rintro v36 cn' K' N' I31 R32 L33 ⟨rfl, rfl, rfl, rfl, rfl, g34, p37, p38, p39, -⟩
        have hS40 := hS8.tr g34 (by decide +kernel) (by decide +kernel)
        have c41 : I31 a0 0 = v5 := (g34.cell ta0 (by decide +kernel)).trans e9
        obtain ⟨v42, c43⟩ : ∃ v, I31 a0 1 = v := ⟨_, rfl⟩
        rw [c43] at p38
        obtain ⟨v44, c45⟩ : ∃ v, I31 a0 2 = v := ⟨_, rfl⟩
        rw [c45] at p39
        exact tr_iret hZ dX12_light_18 rfl (by decide) (by decide) ⟨v36, rfl, rfl, rfl, rfl, rfl, rfl, hS40, (Or.inl ⟨(by first | done | with_reducible assumption | omega), d4, trivial⟩), trivial⟩
    · skip
      exfalso; obtain ⟨z, hz⟩ := rp24; rw [d4] at hz; cases hz
    · skip
      exfalso; obtain ⟨z, hz⟩ := rp27; rw [d4] at hz; cases hz
  · skip
    refine tr_aload_n dX12_light_0 rfl ?_
    refine q_iconst dX12_light_1 (by decide) ?_
    intro v46 h47
    refine q_putI dX12_light_2 fl12_70 (kR15 hS0.1 ta0) (Or.inl rfl) hS0 ta0 (iokF rfl) rfl (by decide +kernel) ?_
    intro I48 hS49 e50 f51
    refine tr_aload_n dX12_light_5 rfl ?_
    refine tr_iload_n dX12_light_6 rfl ?_
    obtain ⟨v52, c53⟩ : ∃ v, I0 a3 1 = v := ⟨_, rfl⟩
    have b54 := iv14_1 hW0 ta3 c53
    refine q_callVi hE (M' := mX12_isHut) (as := [_]) dX12_light_7 lk12_446 inX12_isHut seX12_isHut myX12_isHut (by decide) ⟨by decide, by decide⟩ rfl (kR15 hS49.1 ta0) (Nat.le_of_ble_eq_true rfl) rfl rfl (by decide) (by decide) (fk_X12_isHut hS49.1  ta0) ?_
    rintro v60 cn' K' N' I55 R56 L57 ⟨rfl, rfl, rfl, rfl, rfl, rfl, h61, dj62, -⟩
    rcases dj62 with ⟨p63, rp64, -⟩ | ⟨p65, p66, p67, rp68, -⟩ | ⟨p69, p70, rp71, -⟩
    · skip
      exfalso; have hz := rp64; rw [d4] at hz; cases hz
    · skip
      have p72 := p67 _ d4
      clear p67
      rw [((hS49.cell ta3 (by decide +kernel)).trans c53)] at p72
      refine q_if_ne 19 dX12_light_10 (by decide) (fun h73 => ?_) (fun h73 => ?_)
      · skip
        refine tr_aload_n dX12_light_19 rfl ?_
        refine tr_iload_n dX12_light_20 rfl ?_
        obtain ⟨v74, c75⟩ : ∃ v, I0 a3 0 = v := ⟨_, rfl⟩
        have b76 := hW0.2.2.2.2.2.1 a0 ta0 _ d4
        rw [c75] at b76
        have b77 := iv14_0 hW0 ta3 c75
        refine q_callVi hE (M' := mX12_isMinute) (as := [_]) dX12_light_21 lk12_443 inX12_isMinute seX12_isMinute myX12_isMinute (by decide) ⟨by decide, by decide⟩ rfl (kR15 hS49.1 ta0) (Nat.le_of_ble_eq_true rfl) rfl rfl (by decide) (by decide) (fk_X12_isMinute hS49.1  ta0 ⟨_, d4⟩) ?_
        rintro v83 cn' K' N' I78 R79 L80 ⟨rfl, rfl, rfl, rfl, rfl, rfl, h84, p85, p86, -⟩
        have p87 := p85 _ d4
        clear p85
        rw [((hS49.cell ta3 (by decide +kernel)).trans c75)] at p87
        have p88 := p86 _ d4
        clear p86
        rw [((hS49.cell ta3 (by decide +kernel)).trans c75)] at p88
        refine q_if_ne 33 dX12_light_24 (by decide) (fun h89 => ?_) (fun h89 => ?_)
        · skip
          refine tr_aload_n dX12_light_33 rfl ?_
          refine q_iconst dX12_light_34 (by decide) ?_
          intro v90 h91
          obtain ⟨v92, c93⟩ : ∃ v, I0 a3 2 = v := ⟨_, rfl⟩
          have b94 := iv14_2 hW0 ta3 c93
          obtain ⟨v95, c96⟩ : ∃ v, I0 a1 1 = v := ⟨_, rfl⟩
          have b97 := iv77_1 hW0 ta1 (by decide) c96
          refine q_callVv hE (M' := mX12_laysLight) (as := [_]) dX12_light_35 lk12_434 inX12_laysLight seX12_laysLight myX12_laysLight (by decide) ⟨by decide, by decide⟩ rfl (kR15 hS49.1 ta0) (Nat.le_of_ble_eq_true rfl) rfl rfl (by decide) (by decide) (fk_X12_laysLight hS49.1 (gX) ta0 (EvY.st hX hW0 ta0 hS49 (by decide +kernel)) ⟨_, d4⟩) ?_
          rintro cn' K' N' I98 R99 L100 ⟨rfl, rfl, rfl, rfl, rfl, g101, rp104, -⟩
          have hS105 := hS49.tr g101 (by decide +kernel) (by decide +kernel)
          have c106 : I98 a0 0 = v46 := (g101.cell ta0 (by decide +kernel)).trans e50
          have hz107 := rp104 _ _ d4 d2
          rw [((hS49.cell ta3 (by decide +kernel)).trans c75), ((hS49.cell ta3 (by decide +kernel)).trans c53), ((hS49.cell ta3 (by decide +kernel)).trans c93), ((hS49.cell ta1 (by decide +kernel)).trans c96), show v90.toInt = -1 by omega] at hz107
          refine tr_aload_n dX12_light_38 rfl ?_
          refine tr_iload_n dX12_light_39 rfl ?_
          refine q_if_eq 61 dX12_light_40 (by decide) (fun h108 => ?_) (fun h108 => ?_)
          · skip
            refine tr_aload_n dX12_light_61 rfl ?_
            obtain ⟨a109, d110, ta109⟩ := rf15_22 hW0 ta0
            refine tr_getR dX12_light_62 fl12_31 (kR15 hS105.1 ta0) d110 ?_
            refine q_sipush dX12_light_65 (by decide +kernel) ?_
            intro v111 h112
            refine tr_iload_n dX12_light_68 rfl ?_
            refine q_imulE (c := 240) dX12_light_69 (by omega) (by omega) ?_
            intro v113 h114
            refine tr_iload_n dX12_light_70 rfl ?_
            refine q_iaddE dX12_light_71 (by intros; omega) ?_
            intro v115 h116
            refine q_zald dX12_light_72 (kR82 hS105.1 ta109) (ti_in (nR82 hS105.1 ta109) (by omega) (by omega)) ?_
            intro v117 c118
            have b119 := iv82 hS105.1 ta109 c118
            refine q_if_eq 80 dX12_light_73 (by decide) (fun h120 => ?_) (fun h120 => ?_)
            · skip
              refine q_iconst dX12_light_80 (by decide) ?_
              intro v121 h122
              refine q_callVi hE (M' := mX12_good) (as := [_]) dX12_light_81 lk12_81 inX12_good seX12_good myX12_good (by decide) ⟨by decide, by decide⟩ rfl (kR15 hS105.1 ta0) (Nat.le_of_ble_eq_true rfl) rfl rfl (by decide) (by decide) (fk_X12_good hS105.1  ta0) ?_
              rintro v128 cn' K' N' I123 R124 L125 ⟨rfl, rfl, rfl, rfl, rfl, g126, p129, p130, p131, -⟩
              have hS132 := hS105.tr g126 (by decide +kernel) (by decide +kernel)
              have c133 : I123 a0 0 = v46 := (g126.cell ta0 (by decide +kernel)).trans c106
              obtain ⟨v134, c135⟩ : ∃ v, I123 a0 1 = v := ⟨_, rfl⟩
              rw [c135] at p130
              obtain ⟨v136, c137⟩ : ∃ v, I123 a0 2 = v := ⟨_, rfl⟩
              rw [c137] at p131
              exact tr_iret hZ dX12_light_84 rfl (by decide) (by decide) ⟨v128, rfl, rfl, rfl, rfl, rfl, rfl, hS132, (Or.inr (Or.inr (Or.inr (⟨(by first | done | with_reducible assumption | omega), (fun q0 z0 => by obtain rfl := Option.some.inj ((d4).symm.trans z0); (try rw [c53]); first | done | with_reducible assumption | omega), (by first | done | with_reducible assumption | omega), (fun q0 z0 => by obtain rfl := Option.some.inj ((d4).symm.trans z0); (try rw [c75]); first | done | with_reducible assumption | omega), ⟨_, d4⟩, (fun b w hb hw => by obtain rfl := Option.some.inj (d4.symm.trans hb); obtain rfl := Option.some.inj (d2.symm.trans hw); rw [c53, c93, c96]; have e := hz107.2.2.2.2.1 _ d110 x1.toInt.toNat x2.toInt.toNat (by omega) (by omega) (Or.inl (by omega)); rw [show 240 * x1.toInt.toNat + x2.toInt.toNat = v115.toNatClampNeg by have u := ti_nat (i := v115) (by omega); omega, show I98 a109 v115.toNatClampNeg = v117 from c118, show ((x1.toInt.toNat : Nat) : Int) = x1.toInt by omega, show ((x2.toInt.toNat : Nat) : Int) = x2.toInt by omega] at e; rw [if_neg (by omega)]; omega), trivial⟩)))), trivial⟩
            · skip
              refine q_iconst dX12_light_76 (by decide) ?_
              intro v138 h139
              refine tr_goto 81 dX12_light_77 (by decide) ?_
              refine q_callVi hE (M' := mX12_good) (as := [_]) dX12_light_81 lk12_81 inX12_good seX12_good myX12_good (by decide) ⟨by decide, by decide⟩ rfl (kR15 hS105.1 ta0) (Nat.le_of_ble_eq_true rfl) rfl rfl (by decide) (by decide) (fk_X12_good hS105.1  ta0) ?_
              rintro v145 cn' K' N' I140 R141 L142 ⟨rfl, rfl, rfl, rfl, rfl, g143, p146, p147, p148, -⟩
              have hS149 := hS105.tr g143 (by decide +kernel) (by decide +kernel)
              have c150 : I140 a0 0 = v46 := (g143.cell ta0 (by decide +kernel)).trans c106
              obtain ⟨v151, c152⟩ : ∃ v, I140 a0 1 = v := ⟨_, rfl⟩
              rw [c152] at p147
              obtain ⟨v153, c154⟩ : ∃ v, I140 a0 2 = v := ⟨_, rfl⟩
              rw [c154] at p148
              exact tr_iret hZ dX12_light_84 rfl (by decide) (by decide) ⟨v145, rfl, rfl, rfl, rfl, rfl, rfl, hS149, (Or.inr (Or.inr (Or.inr (⟨(by first | done | with_reducible assumption | omega), (fun q0 z0 => by obtain rfl := Option.some.inj ((d4).symm.trans z0); (try rw [c53]); first | done | with_reducible assumption | omega), (by first | done | with_reducible assumption | omega), (fun q0 z0 => by obtain rfl := Option.some.inj ((d4).symm.trans z0); (try rw [c75]); first | done | with_reducible assumption | omega), ⟨_, d4⟩, (fun b w hb hw => by obtain rfl := Option.some.inj (d4.symm.trans hb); obtain rfl := Option.some.inj (d2.symm.trans hw); rw [c53, c93, c96]; have e := hz107.2.2.2.2.1 _ d110 x1.toInt.toNat x2.toInt.toNat (by omega) (by omega) (Or.inl (by omega)); rw [show 240 * x1.toInt.toNat + x2.toInt.toNat = v115.toNatClampNeg by have u := ti_nat (i := v115) (by omega); omega, show I98 a109 v115.toNatClampNeg = v117 from c118, show ((x1.toInt.toNat : Nat) : Int) = x1.toInt by omega, show ((x2.toInt.toNat : Nat) : Int) = x2.toInt by omega] at e; rw [if_neg (by omega)]; omega), trivial⟩)))), trivial⟩
          · skip
            refine tr_aload_n dX12_light_43 rfl ?_
            obtain ⟨a155, d156, ta155⟩ := rf15_23 hW0 ta0
            refine tr_getR dX12_light_44 fl12_34 (kR15 hS105.1 ta0) d156 ?_
            refine q_sipush dX12_light_47 (by decide +kernel) ?_
            intro v157 h158
            refine tr_iload_n dX12_light_50 rfl ?_
            refine q_imulE (c := 240) dX12_light_51 (by omega) (by omega) ?_
            intro v159 h160
            refine tr_iload_n dX12_light_52 rfl ?_
            refine q_iaddE dX12_light_53 (by intros; omega) ?_
            intro v161 h162
            refine q_zald dX12_light_54 (kR83 hS105.1 ta155) (ti_in (nR83 hS105.1 ta155) (by omega) (by omega)) ?_
            intro v163 c164
            have b165 := iv83 hS105.1 ta155 c164
            refine q_if_eq 80 dX12_light_55 (by decide) (fun h166 => ?_) (fun h166 => ?_)
            · skip
              refine q_iconst dX12_light_80 (by decide) ?_
              intro v167 h168
              refine q_callVi hE (M' := mX12_good) (as := [_]) dX12_light_81 lk12_81 inX12_good seX12_good myX12_good (by decide) ⟨by decide, by decide⟩ rfl (kR15 hS105.1 ta0) (Nat.le_of_ble_eq_true rfl) rfl rfl (by decide) (by decide) (fk_X12_good hS105.1  ta0) ?_
              rintro v174 cn' K' N' I169 R170 L171 ⟨rfl, rfl, rfl, rfl, rfl, g172, p175, p176, p177, -⟩
              have hS178 := hS105.tr g172 (by decide +kernel) (by decide +kernel)
              have c179 : I169 a0 0 = v46 := (g172.cell ta0 (by decide +kernel)).trans c106
              obtain ⟨v180, c181⟩ : ∃ v, I169 a0 1 = v := ⟨_, rfl⟩
              rw [c181] at p176
              obtain ⟨v182, c183⟩ : ∃ v, I169 a0 2 = v := ⟨_, rfl⟩
              rw [c183] at p177
              exact tr_iret hZ dX12_light_84 rfl (by decide) (by decide) ⟨v174, rfl, rfl, rfl, rfl, rfl, rfl, hS178, (Or.inr (Or.inr (Or.inr (⟨(by first | done | with_reducible assumption | omega), (fun q0 z0 => by obtain rfl := Option.some.inj ((d4).symm.trans z0); (try rw [c53]); first | done | with_reducible assumption | omega), (by first | done | with_reducible assumption | omega), (fun q0 z0 => by obtain rfl := Option.some.inj ((d4).symm.trans z0); (try rw [c75]); first | done | with_reducible assumption | omega), ⟨_, d4⟩, (fun b w hb hw => by obtain rfl := Option.some.inj (d4.symm.trans hb); obtain rfl := Option.some.inj (d2.symm.trans hw); rw [c53, c93, c96]; have e := hz107.2.2.2.2.2 _ d156 x1.toInt.toNat x2.toInt.toNat (by omega) (by omega); rw [if_pos (Or.inl (by omega)), show 240 * x1.toInt.toNat + x2.toInt.toNat = v161.toNatClampNeg by have u := ti_nat (i := v161) (by omega); omega, show I98 a155 v161.toNatClampNeg = v163 from c164, show ((x1.toInt.toNat : Nat) : Int) = x1.toInt by omega, show ((x2.toInt.toNat : Nat) : Int) = x2.toInt by omega] at e; rw [if_pos (by omega)]; omega), trivial⟩)))), trivial⟩
            · skip
              refine tr_goto 76 dX12_light_58 (by decide) ?_
              refine q_iconst dX12_light_76 (by decide) ?_
              intro v184 h185
              refine tr_goto 81 dX12_light_77 (by decide) ?_
              refine q_callVi hE (M' := mX12_good) (as := [_]) dX12_light_81 lk12_81 inX12_good seX12_good myX12_good (by decide) ⟨by decide, by decide⟩ rfl (kR15 hS105.1 ta0) (Nat.le_of_ble_eq_true rfl) rfl rfl (by decide) (by decide) (fk_X12_good hS105.1  ta0) ?_
              rintro v191 cn' K' N' I186 R187 L188 ⟨rfl, rfl, rfl, rfl, rfl, g189, p192, p193, p194, -⟩
              have hS195 := hS105.tr g189 (by decide +kernel) (by decide +kernel)
              have c196 : I186 a0 0 = v46 := (g189.cell ta0 (by decide +kernel)).trans c106
              obtain ⟨v197, c198⟩ : ∃ v, I186 a0 1 = v := ⟨_, rfl⟩
              rw [c198] at p193
              obtain ⟨v199, c200⟩ : ∃ v, I186 a0 2 = v := ⟨_, rfl⟩
              rw [c200] at p194
              exact tr_iret hZ dX12_light_84 rfl (by decide) (by decide) ⟨v191, rfl, rfl, rfl, rfl, rfl, rfl, hS195, (Or.inr (Or.inr (Or.inr (⟨(by first | done | with_reducible assumption | omega), (fun q0 z0 => by obtain rfl := Option.some.inj ((d4).symm.trans z0); (try rw [c53]); first | done | with_reducible assumption | omega), (by first | done | with_reducible assumption | omega), (fun q0 z0 => by obtain rfl := Option.some.inj ((d4).symm.trans z0); (try rw [c75]); first | done | with_reducible assumption | omega), ⟨_, d4⟩, (fun b w hb hw => by obtain rfl := Option.some.inj (d4.symm.trans hb); obtain rfl := Option.some.inj (d2.symm.trans hw); rw [c53, c93, c96]; have e := hz107.2.2.2.2.2 _ d156 x1.toInt.toNat x2.toInt.toNat (by omega) (by omega); rw [if_pos (Or.inl (by omega)), show 240 * x1.toInt.toNat + x2.toInt.toNat = v161.toNatClampNeg by have u := ti_nat (i := v161) (by omega); omega, show I98 a155 v161.toNatClampNeg = v163 from c164, show ((x1.toInt.toNat : Nat) : Int) = x1.toInt by omega, show ((x2.toInt.toNat : Nat) : Int) = x2.toInt by omega] at e; rw [if_pos (by omega)]; omega), trivial⟩)))), trivial⟩
        · skip
          refine tr_aload_n dX12_light_27 rfl ?_
          refine q_iconst dX12_light_28 (by decide) ?_
          intro v201 h202
          refine q_callVi hE (M' := mX12_refused) (as := [_]) dX12_light_29 lk12_76 inX12_refused seX12_refused myX12_refused (by decide) ⟨by decide, by decide⟩ rfl (kR15 hS49.1 ta0) (Nat.le_of_ble_eq_true rfl) rfl rfl (by decide) (by decide) (fk_X12_refused hS49.1  ta0) ?_
          rintro v208 cn' K' N' I203 R204 L205 ⟨rfl, rfl, rfl, rfl, rfl, g206, p209, p210, p211, -⟩
          have hS212 := hS49.tr g206 (by decide +kernel) (by decide +kernel)
          have c213 : I203 a0 0 = v46 := (g206.cell ta0 (by decide +kernel)).trans e50
          obtain ⟨v214, c215⟩ : ∃ v, I203 a0 1 = v := ⟨_, rfl⟩
          rw [c215] at p210
          obtain ⟨v216, c217⟩ : ∃ v, I203 a0 2 = v := ⟨_, rfl⟩
          rw [c217] at p211
          exact tr_iret hZ dX12_light_32 rfl (by decide) (by decide) ⟨v208, rfl, rfl, rfl, rfl, rfl, rfl, hS212, (by first | exact Or.inr (Or.inl ⟨(fun q0 z0 => by obtain rfl := Option.some.inj ((d4).symm.trans z0); (try rw [c53]); first | done | with_reducible assumption | omega), (by first | done | with_reducible assumption | omega), ⟨_, d4⟩, trivial⟩) | exact Or.inr (Or.inr (Or.inl ⟨(by first | done | with_reducible assumption | omega), (fun q0 z0 => by obtain rfl := Option.some.inj ((d4).symm.trans z0); (try rw [c53]); first | done | with_reducible assumption | omega), (fun q0 z0 => by obtain rfl := Option.some.inj ((d4).symm.trans z0); (try rw [c75]); first | done | with_reducible assumption | omega), (by first | done | with_reducible assumption | omega), ⟨_, d4⟩, trivial⟩)) | exact Or.inr (Or.inr (Or.inr (⟨(by first | done | with_reducible assumption | omega), (fun q0 z0 => by obtain rfl := Option.some.inj ((d4).symm.trans z0); (try rw [c53]); first | done | with_reducible assumption | omega), (by first | done | with_reducible assumption | omega), (fun q0 z0 => by obtain rfl := Option.some.inj ((d4).symm.trans z0); (try rw [c75]); first | done | with_reducible assumption | omega), ⟨_, d4⟩, (by exfalso; omega), trivial⟩)))), trivial⟩
      · skip
        exfalso; omega
    · skip
      have p218 := p70 _ d4
      clear p70
      rw [((hS49.cell ta3 (by decide +kernel)).trans c53)] at p218
      refine q_if_ne 19 dX12_light_10 (by decide) (fun h219 => ?_) (fun h219 => ?_)
      · skip
        exfalso; omega
      · skip
        refine tr_aload_n dX12_light_13 rfl ?_
        refine q_iconst dX12_light_14 (by decide) ?_
        intro v220 h221
        refine q_callVi hE (M' := mX12_refused) (as := [_]) dX12_light_15 lk12_76 inX12_refused seX12_refused myX12_refused (by decide) ⟨by decide, by decide⟩ rfl (kR15 hS49.1 ta0) (Nat.le_of_ble_eq_true rfl) rfl rfl (by decide) (by decide) (fk_X12_refused hS49.1  ta0) ?_
        rintro v227 cn' K' N' I222 R223 L224 ⟨rfl, rfl, rfl, rfl, rfl, g225, p228, p229, p230, -⟩
        have hS231 := hS49.tr g225 (by decide +kernel) (by decide +kernel)
        have c232 : I222 a0 0 = v46 := (g225.cell ta0 (by decide +kernel)).trans e50
        obtain ⟨v233, c234⟩ : ∃ v, I222 a0 1 = v := ⟨_, rfl⟩
        rw [c234] at p229
        obtain ⟨v235, c236⟩ : ∃ v, I222 a0 2 = v := ⟨_, rfl⟩
        rw [c236] at p230
        obtain ⟨v237, c238⟩ : ∃ v, I0 a3 0 = v := ⟨_, rfl⟩
        have b239 := hW0.2.2.2.2.2.1 a0 ta0 _ d4
        rw [c238] at b239
        have b240 := iv14_0 hW0 ta3 c238
        exact tr_iret hZ dX12_light_18 rfl (by decide) (by decide) ⟨v227, rfl, rfl, rfl, rfl, rfl, rfl, hS231, (by first | exact Or.inr (Or.inl ⟨(fun q0 z0 => by obtain rfl := Option.some.inj ((d4).symm.trans z0); (try rw [c53]); first | done | with_reducible assumption | omega), (by first | done | with_reducible assumption | omega), ⟨_, d4⟩, trivial⟩) | exact Or.inr (Or.inr (Or.inl ⟨(by first | done | with_reducible assumption | omega), (fun q0 z0 => by obtain rfl := Option.some.inj ((d4).symm.trans z0); (try rw [c53]); first | done | with_reducible assumption | omega), (fun q0 z0 => by obtain rfl := Option.some.inj ((d4).symm.trans z0); (try rw [c238]); first | done | with_reducible assumption | omega), (by first | done | with_reducible assumption | omega), ⟨_, d4⟩, trivial⟩)) | exact Or.inr (Or.inr (Or.inr (⟨(by first | done | with_reducible assumption | omega), (fun q0 z0 => by obtain rfl := Option.some.inj ((d4).symm.trans z0); (try rw [c53]); first | done | with_reducible assumption | omega), (by first | done | with_reducible assumption | omega), (fun q0 z0 => by obtain rfl := Option.some.inj ((d4).symm.trans z0); (try rw [c238]); first | done | with_reducible assumption | omega), ⟨_, d4⟩, (by exfalso; omega), trivial⟩)))), trivial⟩
set_option maxHeartbeats 4000000 in
theorem fk_X12_changesIn {l : Launch} {T : Nat → Nat} {cn : Nat} {K N : Nat → Nat} {I0 : cz_I} {R0 : cz_R} {L0 : cz_L} {d : Int} (hW0 : Wf T cn K N I0 R0 d)  {a0 : Nat} (ta0 : T a0 = 15) {x1 : Int32} (hx1 : 0 ≤ x1.toInt ∧ x1.toInt ≤ 3) {x2 : Int32} (hx2 : 0 ≤ x2.toInt ∧ x2.toInt ≤ 239) : ConE l mX12_changesIn [.ref a0, .int x1, .int x2] cn K N I0 R0 L0 (ca_i (fun v cn' K' N' I' R' L' => cn = cn' ∧ K = K' ∧ N = N' ∧ I0 = I' ∧ R0 = R' ∧ L0 = L' ∧ (0 ≤ v.toInt ∧ v.toInt ≤ 1) ∧ (∀ r, R0 a0 22 = some r → v.toInt = if 0 < x2.toInt ∧ ¬ (I0 r (240 * x1.toInt + x2.toInt).toNat).toInt = (I0 r (240 * x1.toInt + x2.toInt - 1).toNat).toInt then 1 else 0) ∧ True)) := by
  refine ConE.of (by decide +kernel) rfl (Nat.le_of_ble_eq_true rfl) rfl (fun X hX hZ hE => ?_)
  subst hX
  obtain ⟨a1, d2, ta1⟩ := rf15_22 hW0 ta0
  refine tr_iload_n dX12_changesIn_0 rfl ?_
  refine q_if_le 37 dX12_changesIn_1 (by decide) (fun h3 => ?_) (fun h3 => ?_)
  · skip
    refine q_iconst dX12_changesIn_37 (by decide) ?_
    intro v4 h5
    exact tr_zret hZ dX12_changesIn_38 rfl (ti_b01 (by omega) (by omega)) (by decide) (by decide) ⟨v4, rfl, rfl, rfl, rfl, rfl, rfl, rfl, (by omega), (fun r hr => by obtain rfl := Option.some.inj (d2.symm.trans hr); rw [if_neg (fun q => by omega)]; omega), trivial⟩
  · skip
    refine tr_aload_n dX12_changesIn_4 rfl ?_
    refine tr_getR dX12_changesIn_5 fl12_31 (kR15 hW0 ta0) d2 ?_
    refine q_sipush dX12_changesIn_8 (by decide +kernel) ?_
    intro v6 h7
    refine tr_iload_n dX12_changesIn_11 rfl ?_
    refine q_imulE (c := 240) dX12_changesIn_12 (by omega) (by omega) ?_
    intro v8 h9
    refine tr_iload_n dX12_changesIn_13 rfl ?_
    refine q_iaddE dX12_changesIn_14 (by intros; omega) ?_
    intro v10 h11
    refine q_zald dX12_changesIn_15 (kR82 hW0 ta1) (ti_in (nR82 hW0 ta1) (by omega) (by omega)) ?_
    intro v12 c13
    have b14 := iv82 hW0 ta1 c13
    refine tr_aload_n dX12_changesIn_16 rfl ?_
    refine tr_getR dX12_changesIn_17 fl12_31 (kR15 hW0 ta0) d2 ?_
    refine q_sipush dX12_changesIn_20 (by decide +kernel) ?_
    intro v15 h16
    refine tr_iload_n dX12_changesIn_23 rfl ?_
    refine q_imulE (c := 240) dX12_changesIn_24 (by omega) (by omega) ?_
    intro v17 h18
    refine tr_iload_n dX12_changesIn_25 rfl ?_
    refine q_iaddE dX12_changesIn_26 (by intros; omega) ?_
    intro v19 h20
    refine q_iconst dX12_changesIn_27 (by decide) ?_
    intro v21 h22
    refine q_isubE dX12_changesIn_28 (by intros; omega) ?_
    intro v23 h24
    refine q_zald dX12_changesIn_29 (kR82 hW0 ta1) (ti_in (nR82 hW0 ta1) (by omega) (by omega)) ?_
    intro v25 c26
    have b27 := iv82 hW0 ta1 c26
    refine q_icmp_eq 37 dX12_changesIn_30 (by decide) (fun h28 => ?_) (fun h28 => ?_)
    · skip
      refine q_iconst dX12_changesIn_37 (by decide) ?_
      intro v29 h30
      exact tr_zret hZ dX12_changesIn_38 rfl (ti_b01 (by omega) (by omega)) (by decide) (by decide) ⟨v29, rfl, rfl, rfl, rfl, rfl, rfl, rfl, (by omega), (fun r hr => by obtain rfl := Option.some.inj (d2.symm.trans hr); rw [show (240 * x1.toInt + x2.toInt).toNat = v10.toNatClampNeg from congrArg Int.toNat (by omega), show (240 * x1.toInt + x2.toInt - 1).toNat = v23.toNatClampNeg from congrArg Int.toNat (by omega), c13, c26]; split <;> omega), trivial⟩
    · skip
      refine q_iconst dX12_changesIn_33 (by decide) ?_
      intro v31 h32
      refine tr_goto 38 dX12_changesIn_34 (by decide) ?_
      exact tr_zret hZ dX12_changesIn_38 rfl (ti_b01 (by omega) (by omega)) (by decide) (by decide) ⟨v31, rfl, rfl, rfl, rfl, rfl, rfl, rfl, (by omega), (fun r hr => by obtain rfl := Option.some.inj (d2.symm.trans hr); rw [show (240 * x1.toInt + x2.toInt).toNat = v10.toNatClampNeg from congrArg Int.toNat (by omega), show (240 * x1.toInt + x2.toInt - 1).toNat = v23.toNatClampNeg from congrArg Int.toNat (by omega), c13, c26]; split <;> omega), trivial⟩
set_option maxHeartbeats 4000000 in
theorem fk_X12_seemsToIn {l : Launch} {T : Nat → Nat} {cn : Nat} {K N : Nat → Nat} {I0 : cz_I} {R0 : cz_R} {L0 : cz_L} {d : Int} (hW0 : Wf T cn K N I0 R0 d)  {a0 : Nat} (ta0 : T a0 = 15) {x1 : Int32} (hx1 : 0 ≤ x1.toInt ∧ x1.toInt ≤ 3) {x2 : Int32} (hx2 : 0 ≤ x2.toInt ∧ x2.toInt ≤ 239) : ConE l mX12_seemsToIn [.ref a0, .int x1, .int x2] cn K N I0 R0 L0 (ca_i (fun v cn' K' N' I' R' L' => cn = cn' ∧ K = K' ∧ N = N' ∧ I0 = I' ∧ R0 = R' ∧ L0 = L' ∧ (0 ≤ v.toInt ∧ v.toInt ≤ 1) ∧ (∀ r, R0 a0 23 = some r → v.toInt = if 0 < x2.toInt ∧ ¬ (I0 r (240 * x1.toInt + x2.toInt).toNat).toInt = (I0 r (240 * x1.toInt + x2.toInt - 1).toNat).toInt then 1 else 0) ∧ True)) := by
  refine ConE.of (by decide +kernel) rfl (Nat.le_of_ble_eq_true rfl) rfl (fun X hX hZ hE => ?_)
  subst hX
  obtain ⟨a1, d2, ta1⟩ := rf15_23 hW0 ta0
  refine tr_iload_n dX12_seemsToIn_0 rfl ?_
  refine q_if_le 37 dX12_seemsToIn_1 (by decide) (fun h3 => ?_) (fun h3 => ?_)
  · skip
    refine q_iconst dX12_seemsToIn_37 (by decide) ?_
    intro v4 h5
    exact tr_zret hZ dX12_seemsToIn_38 rfl (ti_b01 (by omega) (by omega)) (by decide) (by decide) ⟨v4, rfl, rfl, rfl, rfl, rfl, rfl, rfl, (by omega), (fun r hr => by obtain rfl := Option.some.inj (d2.symm.trans hr); rw [if_neg (fun q => by omega)]; omega), trivial⟩
  · skip
    refine tr_aload_n dX12_seemsToIn_4 rfl ?_
    refine tr_getR dX12_seemsToIn_5 fl12_34 (kR15 hW0 ta0) d2 ?_
    refine q_sipush dX12_seemsToIn_8 (by decide +kernel) ?_
    intro v6 h7
    refine tr_iload_n dX12_seemsToIn_11 rfl ?_
    refine q_imulE (c := 240) dX12_seemsToIn_12 (by omega) (by omega) ?_
    intro v8 h9
    refine tr_iload_n dX12_seemsToIn_13 rfl ?_
    refine q_iaddE dX12_seemsToIn_14 (by intros; omega) ?_
    intro v10 h11
    refine q_zald dX12_seemsToIn_15 (kR83 hW0 ta1) (ti_in (nR83 hW0 ta1) (by omega) (by omega)) ?_
    intro v12 c13
    have b14 := iv83 hW0 ta1 c13
    refine tr_aload_n dX12_seemsToIn_16 rfl ?_
    refine tr_getR dX12_seemsToIn_17 fl12_34 (kR15 hW0 ta0) d2 ?_
    refine q_sipush dX12_seemsToIn_20 (by decide +kernel) ?_
    intro v15 h16
    refine tr_iload_n dX12_seemsToIn_23 rfl ?_
    refine q_imulE (c := 240) dX12_seemsToIn_24 (by omega) (by omega) ?_
    intro v17 h18
    refine tr_iload_n dX12_seemsToIn_25 rfl ?_
    refine q_iaddE dX12_seemsToIn_26 (by intros; omega) ?_
    intro v19 h20
    refine q_iconst dX12_seemsToIn_27 (by decide) ?_
    intro v21 h22
    refine q_isubE dX12_seemsToIn_28 (by intros; omega) ?_
    intro v23 h24
    refine q_zald dX12_seemsToIn_29 (kR83 hW0 ta1) (ti_in (nR83 hW0 ta1) (by omega) (by omega)) ?_
    intro v25 c26
    have b27 := iv83 hW0 ta1 c26
    refine q_icmp_eq 37 dX12_seemsToIn_30 (by decide) (fun h28 => ?_) (fun h28 => ?_)
    · skip
      refine q_iconst dX12_seemsToIn_37 (by decide) ?_
      intro v29 h30
      exact tr_zret hZ dX12_seemsToIn_38 rfl (ti_b01 (by omega) (by omega)) (by decide) (by decide) ⟨v29, rfl, rfl, rfl, rfl, rfl, rfl, rfl, (by omega), (fun r hr => by obtain rfl := Option.some.inj (d2.symm.trans hr); rw [show (240 * x1.toInt + x2.toInt).toNat = v10.toNatClampNeg from congrArg Int.toNat (by omega), show (240 * x1.toInt + x2.toInt - 1).toNat = v23.toNatClampNeg from congrArg Int.toNat (by omega), c13, c26]; split <;> omega), trivial⟩
    · skip
      refine q_iconst dX12_seemsToIn_33 (by decide) ?_
      intro v31 h32
      refine tr_goto 38 dX12_seemsToIn_34 (by decide) ?_
      exact tr_zret hZ dX12_seemsToIn_38 rfl (ti_b01 (by omega) (by omega)) (by decide) (by decide) ⟨v31, rfl, rfl, rfl, rfl, rfl, rfl, rfl, (by omega), (fun r hr => by obtain rfl := Option.some.inj (d2.symm.trans hr); rw [show (240 * x1.toInt + x2.toInt).toNat = v10.toNatClampNeg from congrArg Int.toNat (by omega), show (240 * x1.toInt + x2.toInt - 1).toNat = v23.toNatClampNeg from congrArg Int.toNat (by omega), c13, c26]; split <;> omega), trivial⟩
def wik_X12_changes : List Nat := [960, 961, 962, 5247, 5311, 5375, 5439, 5503, 5567]
def wrk_X12_changes : List Nat := []
def Cs_X12_changes (T : Nat → Nat) (I0 : cz_I) (R0 : cz_R) (a0 : Nat) (gX : Nat → Nat → Int) (x1 : Int32) (x2 : Int32) (v : Int32) (I' : cz_I) (R' : cz_R) : Prop :=
  ((v.toInt = -1) ∧ (R0 a0 3 = none) ∧ True) ∨
  ((∀ b1, R0 a0 3 = some b1 → (x1.toInt < 0 ∨ x1.toInt ≥ (I0 b1 1).toInt)) ∧ (v.toInt = -1) ∧ (∃ b, R0 a0 3 = some b) ∧ True) ∨
  ((0 ≤ x1.toInt) ∧ (∀ b1, R0 a0 3 = some b1 → x1.toInt < (I0 b1 1).toInt) ∧ (∃ b, R0 a0 3 = some b) ∧ (∀ b w, R0 a0 3 = some b → R0 a0 16 = some w → v.toInt = if x2.toInt = 1 then cnM (fun k => skT gX (-1) ((I0 b 2).toInt + (I0 w 1).toInt).toNat (I0 b 1).toInt x1.toInt (k : Int)) (I0 b 0).toInt.toNat else cnM (fun k => skC gX (-1) ((I0 b 2).toInt + (I0 w 1).toInt).toNat (I0 b 1).toInt x1.toInt (k : Int)) (I0 b 0).toInt.toNat) ∧ True)
set_option maxHeartbeats 4000000 in
theorem fk_X12_changes {l : Launch} {T : Nat → Nat} {cn : Nat} {K N : Nat → Nat} {I0 : cz_I} {R0 : cz_R} {L0 : cz_L} {d : Int} (hW0 : Wf T cn K N I0 R0 d) (gX : Nat → Nat → Int) {a0 : Nat} (ta0 : T a0 = 15) {x1 : Int32} {x2 : Int32} (hx2 : 0 ≤ x2.toInt ∧ x2.toInt ≤ 1) (hX : EvY I0 R0 a0 gX) : ConE l mX12_changes [.ref a0, .int x1, .int x2] cn K N I0 R0 L0 (ca_i (fun v cn' K' N' I' R' L' => cn = cn' ∧ K = K' ∧ N = N' ∧ R0 = R' ∧ L0 = L' ∧ St T cn K N d wik_X12_changes wrk_X12_changes I0 R0 I' R0 ∧ Cs_X12_changes T I0 R0 a0 gX x1 x2 v I' R0 ∧ True)) := by
  refine ConE.of (by decide +kernel) rfl (Nat.le_of_ble_eq_true rfl) rfl (fun X hX hZ hE => ?_)
  subst hX
  have hS0 : St T cn K N d wik_X12_changes wrk_X12_changes I0 R0 I0 R0 := St.rf0 hW0
  obtain ⟨a1, d2, ta1⟩ := rf15_16 hW0 ta0
  rcases rf15_3 hW0 ta0 with d4 | ⟨a3, d4, ta3⟩
  · skip
    refine tr_aload_n dX12_changes_0 rfl ?_
    refine q_iconst dX12_changes_1 (by decide) ?_
    intro v5 h6
    refine q_putI dX12_changes_2 fl12_70 (kR15 hS0.1 ta0) (Or.inl rfl) hS0 ta0 (iokF rfl) rfl (by decide +kernel) ?_
    intro I7 hS8 e9 f10
    refine tr_aload_n dX12_changes_5 rfl ?_
    refine tr_iload_n dX12_changes_6 rfl ?_
    refine q_callVi hE (M' := mX12_isHut) (as := [_]) dX12_changes_7 lk12_446 inX12_isHut seX12_isHut myX12_isHut (by decide) ⟨by decide, by decide⟩ rfl (kR15 hS8.1 ta0) (Nat.le_of_ble_eq_true rfl) rfl rfl (by decide) (by decide) (fk_X12_isHut hS8.1  ta0) ?_
    rintro v16 cn' K' N' I11 R12 L13 ⟨rfl, rfl, rfl, rfl, rfl, rfl, h17, dj18, -⟩
    rcases dj18 with ⟨p19, rp20, -⟩ | ⟨p21, p22, p23, rp24, -⟩ | ⟨p25, p26, rp27, -⟩
    · skip
      refine q_if_ne 19 dX12_changes_10 (by decide) (fun h28 => ?_) (fun h28 => ?_)
      · skip
        exfalso; omega
      · skip
        refine tr_aload_n dX12_changes_13 rfl ?_
        refine q_iconst dX12_changes_14 (by decide) ?_
        intro v29 h30
        refine q_callVi hE (M' := mX12_refused) (as := [_]) dX12_changes_15 lk12_76 inX12_refused seX12_refused myX12_refused (by decide) ⟨by decide, by decide⟩ rfl (kR15 hS8.1 ta0) (Nat.le_of_ble_eq_true rfl) rfl rfl (by decide) (by decide) (fk_X12_refused hS8.1  ta0) ?_
        rintro v36 cn' K' N' I31 R32 L33 ⟨rfl, rfl, rfl, rfl, rfl, g34, p37, p38, p39, -⟩
        have hS40 := hS8.tr g34 (by decide +kernel) (by decide +kernel)
        have c41 : I31 a0 0 = v5 := (g34.cell ta0 (by decide +kernel)).trans e9
        obtain ⟨v42, c43⟩ : ∃ v, I31 a0 1 = v := ⟨_, rfl⟩
        rw [c43] at p38
        obtain ⟨v44, c45⟩ : ∃ v, I31 a0 2 = v := ⟨_, rfl⟩
        rw [c45] at p39
        exact tr_iret hZ dX12_changes_18 rfl (by decide) (by decide) ⟨v36, rfl, rfl, rfl, rfl, rfl, rfl, hS40, (Or.inl ⟨(by first | done | with_reducible assumption | omega), d4, trivial⟩), trivial⟩
    · skip
      exfalso; obtain ⟨z, hz⟩ := rp24; rw [d4] at hz; cases hz
    · skip
      exfalso; obtain ⟨z, hz⟩ := rp27; rw [d4] at hz; cases hz
  · skip
    refine tr_aload_n dX12_changes_0 rfl ?_
    refine q_iconst dX12_changes_1 (by decide) ?_
    intro v46 h47
    refine q_putI dX12_changes_2 fl12_70 (kR15 hS0.1 ta0) (Or.inl rfl) hS0 ta0 (iokF rfl) rfl (by decide +kernel) ?_
    intro I48 hS49 e50 f51
    refine tr_aload_n dX12_changes_5 rfl ?_
    refine tr_iload_n dX12_changes_6 rfl ?_
    obtain ⟨v52, c53⟩ : ∃ v, I0 a3 1 = v := ⟨_, rfl⟩
    have b54 := iv14_1 hW0 ta3 c53
    refine q_callVi hE (M' := mX12_isHut) (as := [_]) dX12_changes_7 lk12_446 inX12_isHut seX12_isHut myX12_isHut (by decide) ⟨by decide, by decide⟩ rfl (kR15 hS49.1 ta0) (Nat.le_of_ble_eq_true rfl) rfl rfl (by decide) (by decide) (fk_X12_isHut hS49.1  ta0) ?_
    rintro v60 cn' K' N' I55 R56 L57 ⟨rfl, rfl, rfl, rfl, rfl, rfl, h61, dj62, -⟩
    rcases dj62 with ⟨p63, rp64, -⟩ | ⟨p65, p66, p67, rp68, -⟩ | ⟨p69, p70, rp71, -⟩
    · skip
      exfalso; have hz := rp64; rw [d4] at hz; cases hz
    · skip
      have p72 := p67 _ d4
      clear p67
      rw [((hS49.cell ta3 (by decide +kernel)).trans c53)] at p72
      refine q_if_ne 19 dX12_changes_10 (by decide) (fun h73 => ?_) (fun h73 => ?_)
      · skip
        refine tr_aload_n dX12_changes_19 rfl ?_
        refine q_iconst dX12_changes_20 (by decide) ?_
        intro v74 h75
        obtain ⟨v76, c77⟩ : ∃ v, I0 a3 0 = v := ⟨_, rfl⟩
        have b78 := hW0.2.2.2.2.2.1 a0 ta0 _ d4
        rw [c77] at b78
        have b79 := iv14_0 hW0 ta3 c77
        obtain ⟨v80, c81⟩ : ∃ v, I0 a3 2 = v := ⟨_, rfl⟩
        have b82 := iv14_2 hW0 ta3 c81
        obtain ⟨v83, c84⟩ : ∃ v, I0 a1 1 = v := ⟨_, rfl⟩
        have b85 := iv77_1 hW0 ta1 (by decide) c84
        refine q_callVv hE (M' := mX12_laysLight) (as := [_]) dX12_changes_21 lk12_434 inX12_laysLight seX12_laysLight myX12_laysLight (by decide) ⟨by decide, by decide⟩ rfl (kR15 hS49.1 ta0) (Nat.le_of_ble_eq_true rfl) rfl rfl (by decide) (by decide) (fk_X12_laysLight hS49.1 (gX) ta0 (EvY.st hX hW0 ta0 hS49 (by decide +kernel)) ⟨_, d4⟩) ?_
        rintro cn' K' N' I86 R87 L88 ⟨rfl, rfl, rfl, rfl, rfl, g89, rp92, -⟩
        have hS93 := hS49.tr g89 (by decide +kernel) (by decide +kernel)
        have c94 : I86 a0 0 = v46 := (g89.cell ta0 (by decide +kernel)).trans e50
        have hz95 := rp92 _ _ d4 d2
        rw [((hS49.cell ta3 (by decide +kernel)).trans c77), ((hS49.cell ta3 (by decide +kernel)).trans c53), ((hS49.cell ta3 (by decide +kernel)).trans c81), ((hS49.cell ta1 (by decide +kernel)).trans c84), show v74.toInt = -1 by omega] at hz95
        refine q_iconst dX12_changes_24 (by decide) ?_
        intro v96 h97
        refine tr_istore_n dX12_changes_25 (by decide) (by decide) ?_
        refine q_iconst dX12_changes_26 (by decide) ?_
        intro v98 h99
        refine tr_istore dX12_changes_27 (by decide) (by decide) ?_
        have lp115 : ∀ (fu : Nat) (ls : Nat → Option Value) (v100 : Int32) (v101 : Int32) (I107 : cz_I), ls 0 = some (.ref a0) → ls 1 = some (.int x1) → ls 2 = some (.int x2) → ls 3 = some (.int v100) → ls 4 = some (.int v101) → St T cn K N d wik_X12_changes wrk_X12_changes I0 R0 I107 R0 → 0 ≤ v101.toInt → 0 ≤ v100.toInt → v100.toInt ≤ v101.toInt → (v100.toInt = cnM (fun k => if x2.toInt = 1 then skT gX (-1) (v80.toInt + v83.toInt).toNat v52.toInt x1.toInt (k : Int) else skC gX (-1) (v80.toInt + v83.toInt).toNat v52.toInt x1.toInt (k : Int)) v101.toInt.toNat) → (SkM I107 R0 a0 v76.toInt v52.toInt (-1) gX (v80.toInt + v83.toInt).toNat v76.toInt v76.toInt 0) → (v101.toInt ≤ v76.toInt) → (-v101.toInt + 2147483647).toNat < fu → Tr X mX12_changes 29 ls [] cn K N I107 R0 L0 0 0 := by
          intro fu
          induction fu with
          | zero => intros; rename_i hz; exact absurd hz (Nat.not_lt_zero _)
          | succ fu ih115 =>
            intro ls v100 v101 I107 hl102 hl103 hl104 hl105 hl106 hS108 g109 g110 g111 rw112 rw113 rw114 hm115
            refine tr_iload dX12_changes_29 hl106 ?_
            refine tr_aload_n dX12_changes_31 hl102 ?_
            refine tr_getR dX12_changes_32 fl12_385 (kR15 hS108.1 ta0) d4 ?_
            refine q_getI dX12_changes_35 fl12_192 (kR14 hS108.1 ta3) ((hS108.cell ta3 (by decide +kernel)).trans c77) ?_
            refine q_icmp_ge 82 dX12_changes_38 (by decide) (fun h117 => ?_) (fun h117 => ?_)
            · skip
              refine tr_aload_n dX12_changes_82 hl102 ?_
              refine tr_iload_n dX12_changes_83 hl105 ?_
              refine q_callVi hE (M' := mX12_good) (as := [_]) dX12_changes_84 lk12_81 inX12_good seX12_good myX12_good (by decide) ⟨by decide, by decide⟩ rfl (kR15 hS108.1 ta0) (Nat.le_of_ble_eq_true rfl) rfl rfl (by decide) (by decide) (fk_X12_good hS108.1  ta0) ?_
              rintro v123 cn' K' N' I118 R119 L120 ⟨rfl, rfl, rfl, rfl, rfl, g121, p124, p125, p126, -⟩
              have hS127 := hS108.tr g121 (by decide +kernel) (by decide +kernel)
              obtain ⟨v128, c129⟩ : ∃ v, I118 a0 1 = v := ⟨_, rfl⟩
              rw [c129] at p125
              obtain ⟨v130, c131⟩ : ∃ v, I118 a0 2 = v := ⟨_, rfl⟩
              rw [c131] at p126
              exact tr_iret hZ dX12_changes_87 rfl (by decide) (by decide) ⟨v123, rfl, rfl, rfl, rfl, rfl, rfl, hS127, (Or.inr (Or.inr (⟨(by first | done | with_reducible assumption | omega), (fun q0 z0 => by obtain rfl := Option.some.inj ((d4).symm.trans z0); (try rw [c53]); first | done | with_reducible assumption | omega), ⟨_, d4⟩, (fun b w hb hw => by obtain rfl := Option.some.inj (d4.symm.trans hb); obtain rfl := Option.some.inj (d2.symm.trans hw); rw [c77, c53, c81, c84]; have w := rw112; rw [show v101.toInt.toNat = v76.toInt.toNat from congrArg Int.toNat (by omega)] at w; by_cases z : x2.toInt = 1; (simp only [if_pos z] at w ⊢; omega); (simp only [if_neg z] at w ⊢; omega)), trivial⟩))), trivial⟩
            · skip
              refine tr_iload_n dX12_changes_41 hl105 ?_
              refine tr_iload_n dX12_changes_42 hl104 ?_
              refine q_if_eq 59 dX12_changes_43 (by decide) (fun h132 => ?_) (fun h132 => ?_)
              · skip
                refine tr_aload_n dX12_changes_59 hl102 ?_
                refine tr_iload_n dX12_changes_60 hl103 ?_
                refine tr_iload dX12_changes_61 hl106 ?_
                refine q_callVi hE (M' := mX12_changesIn) (as := [_, _]) dX12_changes_63 lk12_413 inX12_changesIn seX12_changesIn myX12_changesIn (by decide) ⟨by decide, by decide⟩ rfl (kR15 hS108.1 ta0) (Nat.le_of_ble_eq_true rfl) rfl rfl (by decide) (by decide) (fk_X12_changesIn hS108.1  ta0 (by omega) (by omega)) ?_
                rintro v138 cn' K' N' I133 R134 L135 ⟨rfl, rfl, rfl, rfl, rfl, rfl, h139, rp140, -⟩
                obtain ⟨a141, d142, ta141⟩ := rf15_22 hW0 ta0
                have hc143 := SkM.ch rw113 d142 (by omega) (by omega) (by omega) (by omega) (rp140 _ d142)
                refine q_if_eq 73 dX12_changes_66 (by decide) (fun h144 => ?_) (fun h144 => ?_)
                · skip
                  refine q_iconst dX12_changes_73 (by decide) ?_
                  intro v145 h146
                  refine q_iaddE dX12_changes_74 (by intros; omega) ?_
                  intro v147 h148
                  refine tr_istore_n dX12_changes_75 (by decide) (by decide) ?_
                  refine q_iincE dX12_changes_76 hl106 (by decide) (by decide) (by intros; omega) ?_
                  intro v149 h150
                  refine tr_goto 29 dX12_changes_79 (by decide) ?_
                  exact ih115 _ v147 v149 I107 hl102 hl103 hl104 rfl rfl hS108 (by omega) (by omega) (by omega) (by have e := hc143; have w := rw112; rw [show v149.toInt.toNat = v101.toInt.toNat + 1 by omega, cnM]; rw [if_neg (show ¬ x2.toInt = 1 by omega)]; rw [show ((v101.toInt.toNat : Nat) : Int) = v101.toInt by omega]; omega) rw113 (by omega) (by omega)
                · skip
                  refine q_iconst dX12_changes_69 (by decide) ?_
                  intro v151 h152
                  refine tr_goto 74 dX12_changes_70 (by decide) ?_
                  refine q_iaddE dX12_changes_74 (by intros; omega) ?_
                  intro v153 h154
                  refine tr_istore_n dX12_changes_75 (by decide) (by decide) ?_
                  refine q_iincE dX12_changes_76 hl106 (by decide) (by decide) (by intros; omega) ?_
                  intro v155 h156
                  refine tr_goto 29 dX12_changes_79 (by decide) ?_
                  exact ih115 _ v153 v155 I107 hl102 hl103 hl104 rfl rfl hS108 (by omega) (by omega) (by omega) (by have e := hc143; have w := rw112; rw [show v155.toInt.toNat = v101.toInt.toNat + 1 by omega, cnM]; rw [if_neg (show ¬ x2.toInt = 1 by omega)]; rw [show ((v101.toInt.toNat : Nat) : Int) = v101.toInt by omega]; omega) rw113 (by omega) (by omega)
              · skip
                refine tr_aload_n dX12_changes_46 hl102 ?_
                refine tr_iload_n dX12_changes_47 hl103 ?_
                refine tr_iload dX12_changes_48 hl106 ?_
                refine q_callVi hE (M' := mX12_seemsToIn) (as := [_, _]) dX12_changes_50 lk12_416 inX12_seemsToIn seX12_seemsToIn myX12_seemsToIn (by decide) ⟨by decide, by decide⟩ rfl (kR15 hS108.1 ta0) (Nat.le_of_ble_eq_true rfl) rfl rfl (by decide) (by decide) (fk_X12_seemsToIn hS108.1  ta0 (by omega) (by omega)) ?_
                rintro v162 cn' K' N' I157 R158 L159 ⟨rfl, rfl, rfl, rfl, rfl, rfl, h163, rp164, -⟩
                obtain ⟨a165, d166, ta165⟩ := rf15_23 hW0 ta0
                have hc167 := SkM.se rw113 d166 (by omega) (by omega) (by omega) (by omega) (rp164 _ d166)
                refine q_if_eq 73 dX12_changes_53 (by decide) (fun h168 => ?_) (fun h168 => ?_)
                · skip
                  refine q_iconst dX12_changes_73 (by decide) ?_
                  intro v169 h170
                  refine q_iaddE dX12_changes_74 (by intros; omega) ?_
                  intro v171 h172
                  refine tr_istore_n dX12_changes_75 (by decide) (by decide) ?_
                  refine q_iincE dX12_changes_76 hl106 (by decide) (by decide) (by intros; omega) ?_
                  intro v173 h174
                  refine tr_goto 29 dX12_changes_79 (by decide) ?_
                  exact ih115 _ v171 v173 I107 hl102 hl103 hl104 rfl rfl hS108 (by omega) (by omega) (by omega) (by have e := hc167; have w := rw112; rw [show v173.toInt.toNat = v101.toInt.toNat + 1 by omega, cnM]; rw [if_pos (show x2.toInt = 1 by omega)]; rw [show ((v101.toInt.toNat : Nat) : Int) = v101.toInt by omega]; omega) rw113 (by omega) (by omega)
                · skip
                  refine tr_goto 69 dX12_changes_56 (by decide) ?_
                  refine q_iconst dX12_changes_69 (by decide) ?_
                  intro v175 h176
                  refine tr_goto 74 dX12_changes_70 (by decide) ?_
                  refine q_iaddE dX12_changes_74 (by intros; omega) ?_
                  intro v177 h178
                  refine tr_istore_n dX12_changes_75 (by decide) (by decide) ?_
                  refine q_iincE dX12_changes_76 hl106 (by decide) (by decide) (by intros; omega) ?_
                  intro v179 h180
                  refine tr_goto 29 dX12_changes_79 (by decide) ?_
                  exact ih115 _ v177 v179 I107 hl102 hl103 hl104 rfl rfl hS108 (by omega) (by omega) (by omega) (by have e := hc167; have w := rw112; rw [show v179.toInt.toNat = v101.toInt.toNat + 1 by omega, cnM]; rw [if_pos (show x2.toInt = 1 by omega)]; rw [show ((v101.toInt.toNat : Nat) : Int) = v101.toInt by omega]; omega) rw113 (by omega) (by omega)
        exact lp115 _ _ v96 v98 I86 rfl rfl rfl rfl rfl hS93 (by omega) (by omega) (by omega) (by rw [show v98.toInt.toNat = 0 by omega]; show _ = (0 : Int); omega) hz95 (by omega) (Nat.lt_succ_self _)
      · skip
        exfalso; omega
    · skip
      have p181 := p70 _ d4
      clear p70
      rw [((hS49.cell ta3 (by decide +kernel)).trans c53)] at p181
      refine q_if_ne 19 dX12_changes_10 (by decide) (fun h182 => ?_) (fun h182 => ?_)
      · skip
        exfalso; omega
      · skip
        refine tr_aload_n dX12_changes_13 rfl ?_
        refine q_iconst dX12_changes_14 (by decide) ?_
        intro v183 h184
        refine q_callVi hE (M' := mX12_refused) (as := [_]) dX12_changes_15 lk12_76 inX12_refused seX12_refused myX12_refused (by decide) ⟨by decide, by decide⟩ rfl (kR15 hS49.1 ta0) (Nat.le_of_ble_eq_true rfl) rfl rfl (by decide) (by decide) (fk_X12_refused hS49.1  ta0) ?_
        rintro v190 cn' K' N' I185 R186 L187 ⟨rfl, rfl, rfl, rfl, rfl, g188, p191, p192, p193, -⟩
        have hS194 := hS49.tr g188 (by decide +kernel) (by decide +kernel)
        have c195 : I185 a0 0 = v46 := (g188.cell ta0 (by decide +kernel)).trans e50
        obtain ⟨v196, c197⟩ : ∃ v, I185 a0 1 = v := ⟨_, rfl⟩
        rw [c197] at p192
        obtain ⟨v198, c199⟩ : ∃ v, I185 a0 2 = v := ⟨_, rfl⟩
        rw [c199] at p193
        exact tr_iret hZ dX12_changes_18 rfl (by decide) (by decide) ⟨v190, rfl, rfl, rfl, rfl, rfl, rfl, hS194, (by first | exact Or.inr (Or.inl ⟨(fun q0 z0 => by obtain rfl := Option.some.inj ((d4).symm.trans z0); (try rw [c53]); first | done | with_reducible assumption | omega), (by first | done | with_reducible assumption | omega), ⟨_, d4⟩, trivial⟩) | exact Or.inr (Or.inr (⟨(by first | done | with_reducible assumption | omega), (fun q0 z0 => by obtain rfl := Option.some.inj ((d4).symm.trans z0); (try rw [c53]); first | done | with_reducible assumption | omega), ⟨_, d4⟩, (by exfalso; omega), trivial⟩))), trivial⟩
def wik_X12_change : List Nat := [960, 961, 962, 5247, 5311, 5375, 5439, 5503, 5567]
def wrk_X12_change : List Nat := []
def Cs_X12_change (T : Nat → Nat) (I0 : cz_I) (R0 : cz_R) (a0 : Nat) (gX : Nat → Nat → Int) (x1 : Int32) (x2 : Int32) (v : Int32) (I' : cz_I) (R' : cz_R) : Prop :=
  ((v.toInt = -1) ∧ (R0 a0 3 = none) ∧ True) ∨
  ((∀ b1, R0 a0 3 = some b1 → (x1.toInt < 0 ∨ x1.toInt ≥ (I0 b1 1).toInt)) ∧ (v.toInt = -1) ∧ (∃ b, R0 a0 3 = some b) ∧ True) ∨
  ((0 ≤ x1.toInt) ∧ (∀ b1, R0 a0 3 = some b1 → x1.toInt < (I0 b1 1).toInt) ∧ (∃ b, R0 a0 3 = some b) ∧ (∀ b w, R0 a0 3 = some b → R0 a0 16 = some w → Chg (fun k => skC gX (-1) ((I0 b 2).toInt + (I0 w 1).toInt).toNat (I0 b 1).toInt x1.toInt (k : Int)) (I0 b 0).toInt x2.toInt v.toInt) ∧ True)
