def wi_X12_event : List Nat := [960, 961, 962]
def wr_X12_event : List Nat := []
set_option maxHeartbeats 4000000 in
theorem k_X12_event {l : Launch} {T : Nat → Nat} {cn : Nat} {K N : Nat → Nat} {I0 : cz_I} {R0 : cz_R} {L0 : cz_L} {d : Int} (hW0 : Wf T cn K N I0 R0 d) {a0 : Nat} (ta0 : T a0 = 15) {x1 : Int32} {x2 : Int32} : ConE l mX12_event [.ref a0, .int x1, .int x2] cn K N I0 R0 L0 (ca_i (fun v cn' K' N' I' R' L' => cn = cn' ∧ K = K' ∧ N = N' ∧ R0 = R' ∧ L0 = L' ∧ St T cn K N d wi_X12_event wr_X12_event I0 R0 I' R0 ∧ True)) := by
  refine ConE.of (by decide +kernel) rfl (Nat.le_of_ble_eq_true rfl) rfl (fun X hX hZ hE => ?_)
  subst hX
  have hS0 : St T cn K N d wi_X12_event wr_X12_event I0 R0 I0 R0 := St.rf0 hW0
  rcases rf15_3 hW0 ta0 with d2 | ⟨a1, d2, ta1⟩
  · skip
    refine tr_aload_n dX12_event_0 rfl ?_
    refine q_iconst dX12_event_1 (by decide) ?_
    intro v3 h4
    refine q_putI dX12_event_2 fl12_70 (kR15 hS0.1 ta0) (Or.inl rfl) hS0 ta0 (iokF rfl) rfl (by decide +kernel) ?_
    intro I5 hS6 e7 f8
    refine tr_aload_n dX12_event_5 rfl ?_
    refine tr_iload_n dX12_event_6 rfl ?_
    obtain ⟨a9, d10, ta9⟩ := rf15_16 hW0 ta0
    obtain ⟨v11, c12⟩ : ∃ v, I0 a9 1 = v := ⟨_, rfl⟩
    have b13 := iv77_1 hW0 ta9 (by decide) c12
    refine q_callVi hE (M' := mX12_isEvent) (as := [_]) dX12_event_7 lk12_467 inX12_isEvent seX12_isEvent myX12_isEvent (by decide) ⟨by decide, by decide⟩ rfl (kR15 hS6.1 ta0) (Nat.le_of_ble_eq_true rfl) rfl rfl (by decide) (by decide) (k_X12_isEvent hS6.1 ta0) ?_
    rintro v18 cn' K' N' I14 R15 L16 ⟨rfl, rfl, rfl, rfl, rfl, rfl, h19, p20, p21, -⟩
    have p22 := (p21 d2)
    refine q_if_eq 22 dX12_event_10 (by decide) (fun h23 => ?_) (fun h23 => ?_)
    · skip
      refine tr_aload_n dX12_event_22 rfl ?_
      refine q_iconst dX12_event_23 (by decide) ?_
      intro v24 h25
      refine q_callVi hE (M' := mX12_refused) (as := [_]) dX12_event_24 lk12_76 inX12_refused seX12_refused myX12_refused (by decide) ⟨by decide, by decide⟩ rfl (kR15 hS6.1 ta0) (Nat.le_of_ble_eq_true rfl) rfl rfl (by decide) (by decide) (k_X12_refused hS6.1 ta0) ?_
      rintro v30 cn' K' N' I26 R27 L28 ⟨rfl, rfl, rfl, rfl, rfl, g29, -⟩
      have hS31 := hS6.tr g29 (by decide +kernel) (by decide +kernel)
      have c32 : I26 a0 0 = v3 := (g29.cell ta0 (by decide +kernel)).trans e7
      exact tr_iret hZ dX12_event_27 rfl (by decide) (by decide) ⟨v30, rfl, rfl, rfl, rfl, rfl, rfl, hS31, trivial⟩
    · skip
      exfalso; exact om_3a97d4a5 p22 h23
  · skip
    refine tr_aload_n dX12_event_0 rfl ?_
    refine q_iconst dX12_event_1 (by decide) ?_
    intro v33 h34
    refine q_putI dX12_event_2 fl12_70 (kR15 hS0.1 ta0) (Or.inl rfl) hS0 ta0 (iokF rfl) rfl (by decide +kernel) ?_
    intro I35 hS36 e37 f38
    refine tr_aload_n dX12_event_5 rfl ?_
    refine tr_iload_n dX12_event_6 rfl ?_
    obtain ⟨v39, c40⟩ : ∃ v, I0 a1 2 = v := ⟨_, rfl⟩
    have b41 := iv14_2 hW0 ta1 c40
    obtain ⟨a42, d43, ta42⟩ := rf15_16 hW0 ta0
    obtain ⟨v44, c45⟩ : ∃ v, I0 a42 1 = v := ⟨_, rfl⟩
    have b46 := iv77_1 hW0 ta42 (by decide) c45
    refine q_callVi hE (M' := mX12_isEvent) (as := [_]) dX12_event_7 lk12_467 inX12_isEvent seX12_isEvent myX12_isEvent (by decide) ⟨by decide, by decide⟩ rfl (kR15 hS36.1 ta0) (Nat.le_of_ble_eq_true rfl) rfl rfl (by decide) (by decide) (k_X12_isEvent hS36.1 ta0) ?_
    rintro v51 cn' K' N' I47 R48 L49 ⟨rfl, rfl, rfl, rfl, rfl, rfl, h52, p53, p54, -⟩
    have p55 := p53 _ d2 _ d43
    clear p53
    rw [((hS36.cell ta1 (by decide +kernel)).trans c40)] at p55
    rw [((hS36.cell ta42 (by decide +kernel)).trans c45)] at p55
    refine q_if_eq 22 dX12_event_10 (by decide) (fun h56 => ?_) (fun h56 => ?_)
    · skip
      refine tr_aload_n dX12_event_22 rfl ?_
      refine q_iconst dX12_event_23 (by decide) ?_
      intro v57 h58
      refine q_callVi hE (M' := mX12_refused) (as := [_]) dX12_event_24 lk12_76 inX12_refused seX12_refused myX12_refused (by decide) ⟨by decide, by decide⟩ rfl (kR15 hS36.1 ta0) (Nat.le_of_ble_eq_true rfl) rfl rfl (by decide) (by decide) (k_X12_refused hS36.1 ta0) ?_
      rintro v63 cn' K' N' I59 R60 L61 ⟨rfl, rfl, rfl, rfl, rfl, g62, -⟩
      have hS64 := hS36.tr g62 (by decide +kernel) (by decide +kernel)
      have c65 : I59 a0 0 = v33 := (g62.cell ta0 (by decide +kernel)).trans e37
      exact tr_iret hZ dX12_event_27 rfl (by decide) (by decide) ⟨v63, rfl, rfl, rfl, rfl, rfl, rfl, hS64, trivial⟩
    · skip
      refine tr_iload_n dX12_event_13 rfl ?_
      refine q_iconst dX12_event_14 (by decide) ?_
      intro v66 h67
      refine q_iconst dX12_event_15 (by decide) ?_
      intro v68 h69
      refine q_callSi hE (M' := mX12_in) (as := [_, _, _]) dX12_event_16 lk12_149 inX12_in myX12_in ⟨by decide, by decide⟩ rfl (Nat.le_of_ble_eq_true rfl) rfl rfl (by decide) (by decide) (k_X12_in hS36.1 ) ?_
      rintro v74 cn' K' N' I70 R71 L72 ⟨rfl, rfl, rfl, rfl, rfl, rfl, h75, p76, p77, -⟩
      refine q_if_ne 28 dX12_event_19 (by decide) (fun h78 => ?_) (fun h78 => ?_)
      · skip
        refine tr_aload_n dX12_event_28 rfl ?_
        refine tr_iload_n dX12_event_29 rfl ?_
        refine q_if_ne 41 dX12_event_30 (by decide) (fun h79 => ?_) (fun h79 => ?_)
        · skip
          refine tr_iload_n dX12_event_41 rfl ?_
          refine q_iconst dX12_event_42 (by decide) ?_
          intro v80 h81
          refine q_icmp_ne 54 dX12_event_43 (by decide) (fun h82 => ?_) (fun h82 => ?_)
          · skip
            refine tr_iload_n dX12_event_54 rfl ?_
            refine q_iconst dX12_event_55 (by decide) ?_
            intro v83 h84
            refine q_icmp_ne 67 dX12_event_56 (by decide) (fun h85 => ?_) (fun h85 => ?_)
            · skip
              refine tr_aload_n dX12_event_67 rfl ?_
              refine tr_iload_n dX12_event_68 rfl ?_
              refine q_callVi hE (M' := mX12_toOf) (as := [_]) dX12_event_69 lk12_398 inX12_toOf seX12_toOf myX12_toOf (by decide) ⟨by decide, by decide⟩ rfl (kR15 hS36.1 ta0) (Nat.le_of_ble_eq_true rfl) rfl rfl (by decide) (by decide) (k_X12_toOf hS36.1 ta0 (by exact om_0eb4e805 h52.2 h52.1 p55 h56 h67 h69 h75.2 h75.1 p76 p77 h78 h79 h81 h82 h84 h85) (fun q0 z0 => fun q1 z1 => by obtain rfl := Option.some.inj ((d2).symm.trans z0); obtain rfl := Option.some.inj ((d43).symm.trans z1); (try rw [((hS36.cell ta1 (by decide +kernel)).trans c40)]); (try rw [((hS36.cell ta42 (by decide +kernel)).trans c45)]); (try exact om_985a4e22 h52.2 h52.1 p55 h56 h67 h69 h75.2 h75.1 p76 p77 h78 h79 h81 h82 h84 h85)) ⟨_, d2⟩) ?_
              rintro v90 cn' K' N' I86 R87 L88 ⟨rfl, rfl, rfl, rfl, rfl, rfl, h91, -⟩
              refine q_callVi hE (M' := mX12_good) (as := [_]) dX12_event_72 lk12_81 inX12_good seX12_good myX12_good (by decide) ⟨by decide, by decide⟩ rfl (kR15 hS36.1 ta0) (Nat.le_of_ble_eq_true rfl) rfl rfl (by decide) (by decide) (k_X12_good hS36.1 ta0) ?_
              rintro v96 cn' K' N' I92 R93 L94 ⟨rfl, rfl, rfl, rfl, rfl, g95, -⟩
              have hS97 := hS36.tr g95 (by decide +kernel) (by decide +kernel)
              have c98 : I92 a0 0 = v33 := (g95.cell ta0 (by decide +kernel)).trans e37
              exact tr_iret hZ dX12_event_75 rfl (by decide) (by decide) ⟨v96, rfl, rfl, rfl, rfl, rfl, rfl, hS97, trivial⟩
            · skip
              refine tr_aload_n dX12_event_59 rfl ?_
              refine tr_iload_n dX12_event_60 rfl ?_
              refine q_callVi hE (M' := mX12_fromOf) (as := [_]) dX12_event_61 lk12_395 inX12_fromOf seX12_fromOf myX12_fromOf (by decide) ⟨by decide, by decide⟩ rfl (kR15 hS36.1 ta0) (Nat.le_of_ble_eq_true rfl) rfl rfl (by decide) (by decide) (k_X12_fromOf hS36.1 ta0 (by exact om_d5c89c77 h52.2 h52.1 p55 h56 h67 h69 h75.2 h75.1 p76 p77 h78 h79 h81 h82 h84 h85) (fun q0 z0 => fun q1 z1 => by obtain rfl := Option.some.inj ((d2).symm.trans z0); obtain rfl := Option.some.inj ((d43).symm.trans z1); (try rw [((hS36.cell ta1 (by decide +kernel)).trans c40)]); (try rw [((hS36.cell ta42 (by decide +kernel)).trans c45)]); (try exact om_804adb6e h52.2 h52.1 p55 h56 h67 h69 h75.2 h75.1 p76 p77 h78 h79 h81 h82 h84 h85)) ⟨_, d2⟩) ?_
              rintro v103 cn' K' N' I99 R100 L101 ⟨rfl, rfl, rfl, rfl, rfl, rfl, h104, -⟩
              refine tr_goto 72 dX12_event_64 (by decide) ?_
              refine q_callVi hE (M' := mX12_good) (as := [_]) dX12_event_72 lk12_81 inX12_good seX12_good myX12_good (by decide) ⟨by decide, by decide⟩ rfl (kR15 hS36.1 ta0) (Nat.le_of_ble_eq_true rfl) rfl rfl (by decide) (by decide) (k_X12_good hS36.1 ta0) ?_
              rintro v109 cn' K' N' I105 R106 L107 ⟨rfl, rfl, rfl, rfl, rfl, g108, -⟩
              have hS110 := hS36.tr g108 (by decide +kernel) (by decide +kernel)
              have c111 : I105 a0 0 = v33 := (g108.cell ta0 (by decide +kernel)).trans e37
              exact tr_iret hZ dX12_event_75 rfl (by decide) (by decide) ⟨v109, rfl, rfl, rfl, rfl, rfl, rfl, hS110, trivial⟩
          · skip
            refine tr_aload_n dX12_event_46 rfl ?_
            refine tr_iload_n dX12_event_47 rfl ?_
            refine q_callVi hE (M' := mX12_hutOf) (as := [_]) dX12_event_48 lk12_407 inX12_hutOf seX12_hutOf myX12_hutOf (by decide) ⟨by decide, by decide⟩ rfl (kR15 hS36.1 ta0) (Nat.le_of_ble_eq_true rfl) rfl rfl (by decide) (by decide) (k_X12_hutOf hS36.1 ta0 (by exact om_7dcd33e9 h52.2 h52.1 p55 h56 h67 h69 h75.2 h75.1 p76 p77 h78 h79 h81 h82) ⟨_, d2⟩) ?_
            rintro v116 cn' K' N' I112 R113 L114 ⟨rfl, rfl, rfl, rfl, rfl, rfl, h117, r118, -⟩
            refine tr_goto 72 dX12_event_51 (by decide) ?_
            refine q_callVi hE (M' := mX12_good) (as := [_]) dX12_event_72 lk12_81 inX12_good seX12_good myX12_good (by decide) ⟨by decide, by decide⟩ rfl (kR15 hS36.1 ta0) (Nat.le_of_ble_eq_true rfl) rfl rfl (by decide) (by decide) (k_X12_good hS36.1 ta0) ?_
            rintro v123 cn' K' N' I119 R120 L121 ⟨rfl, rfl, rfl, rfl, rfl, g122, -⟩
            have hS124 := hS36.tr g122 (by decide +kernel) (by decide +kernel)
            have c125 : I119 a0 0 = v33 := (g122.cell ta0 (by decide +kernel)).trans e37
            exact tr_iret hZ dX12_event_75 rfl (by decide) (by decide) ⟨v123, rfl, rfl, rfl, rfl, rfl, rfl, hS124, trivial⟩
        · skip
          refine tr_aload_n dX12_event_33 rfl ?_
          refine tr_iload_n dX12_event_34 rfl ?_
          refine q_callVi hE (M' := mX12_kindOf) (as := [_]) dX12_event_35 lk12_404 inX12_kindOf seX12_kindOf myX12_kindOf (by decide) ⟨by decide, by decide⟩ rfl (kR15 hS36.1 ta0) (Nat.le_of_ble_eq_true rfl) rfl rfl (by decide) (by decide) (k_X12_kindOf hS36.1 ta0 (by exact om_ad7bbb21 h52.2 h52.1 p55 h56 h67 h69 h75.2 h75.1 p76 p77 h78 h79) ⟨_, d2⟩) ?_
          rintro v130 cn' K' N' I126 R127 L128 ⟨rfl, rfl, rfl, rfl, rfl, rfl, r131, -⟩
          refine tr_goto 72 dX12_event_38 (by decide) ?_
          refine q_callVi hE (M' := mX12_good) (as := [_]) dX12_event_72 lk12_81 inX12_good seX12_good myX12_good (by decide) ⟨by decide, by decide⟩ rfl (kR15 hS36.1 ta0) (Nat.le_of_ble_eq_true rfl) rfl rfl (by decide) (by decide) (k_X12_good hS36.1 ta0) ?_
          rintro v136 cn' K' N' I132 R133 L134 ⟨rfl, rfl, rfl, rfl, rfl, g135, -⟩
          have hS137 := hS36.tr g135 (by decide +kernel) (by decide +kernel)
          have c138 : I132 a0 0 = v33 := (g135.cell ta0 (by decide +kernel)).trans e37
          exact tr_iret hZ dX12_event_75 rfl (by decide) (by decide) ⟨v136, rfl, rfl, rfl, rfl, rfl, rfl, hS137, trivial⟩
      · skip
        refine tr_aload_n dX12_event_22 rfl ?_
        refine q_iconst dX12_event_23 (by decide) ?_
        intro v139 h140
        refine q_callVi hE (M' := mX12_refused) (as := [_]) dX12_event_24 lk12_76 inX12_refused seX12_refused myX12_refused (by decide) ⟨by decide, by decide⟩ rfl (kR15 hS36.1 ta0) (Nat.le_of_ble_eq_true rfl) rfl rfl (by decide) (by decide) (k_X12_refused hS36.1 ta0) ?_
        rintro v145 cn' K' N' I141 R142 L143 ⟨rfl, rfl, rfl, rfl, rfl, g144, -⟩
        have hS146 := hS36.tr g144 (by decide +kernel) (by decide +kernel)
        have c147 : I141 a0 0 = v33 := (g144.cell ta0 (by decide +kernel)).trans e37
        exact tr_iret hZ dX12_event_27 rfl (by decide) (by decide) ⟨v145, rfl, rfl, rfl, rfl, rfl, rfl, hS146, trivial⟩
def wi_X12_size : List Nat := [960]
def wr_X12_size : List Nat := []
set_option maxHeartbeats 4000000 in
theorem k_X12_size {l : Launch} {T : Nat → Nat} {cn : Nat} {K N : Nat → Nat} {I0 : cz_I} {R0 : cz_R} {L0 : cz_L} {d : Int} (hW0 : Wf T cn K N I0 R0 d) {a0 : Nat} (ta0 : T a0 = 15) {x1 : Int32} : ConE l mX12_size [.ref a0, .int x1] cn K N I0 R0 L0 (ca_i (fun v cn' K' N' I' R' L' => cn = cn' ∧ K = K' ∧ N = N' ∧ R0 = R' ∧ L0 = L' ∧ St T cn K N d wi_X12_size wr_X12_size I0 R0 I' R0 ∧ True)) := by
  refine ConE.of (by decide +kernel) rfl (Nat.le_of_ble_eq_true rfl) rfl (fun X hX hZ hE => ?_)
  subst hX
  have hS0 : St T cn K N d wi_X12_size wr_X12_size I0 R0 I0 R0 := St.rf0 hW0
  rcases rf15_3 hW0 ta0 with d2 | ⟨a1, d2, ta1⟩
  · skip
    refine tr_aload_n dX12_size_0 rfl ?_
    refine q_iconst dX12_size_1 (by decide) ?_
    intro v3 h4
    refine q_putI dX12_size_2 fl12_70 (kR15 hS0.1 ta0) (Or.inl rfl) hS0 ta0 (iokF rfl) rfl (by decide +kernel) ?_
    intro I5 hS6 e7 f8
    refine tr_iload_n dX12_size_5 rfl ?_
    refine q_bipush dX12_size_6 (by decide +kernel) ?_
    intro v9 h10
    refine q_icmp_ne 16 dX12_size_8 (by decide) (fun h11 => ?_) (fun h11 => ?_)
    · skip
      refine tr_iload_n dX12_size_16 rfl ?_
      refine q_iconst dX12_size_17 (by decide) ?_
      intro v12 h13
      refine q_bipush dX12_size_18 (by decide +kernel) ?_
      intro v14 h15
      refine q_callSi hE (M' := mX12_in) (as := [_, _, _]) dX12_size_20 lk12_149 inX12_in myX12_in ⟨by decide, by decide⟩ rfl (Nat.le_of_ble_eq_true rfl) rfl rfl (by decide) (by decide) (k_X12_in hS6.1 ) ?_
      rintro v20 cn' K' N' I16 R17 L18 ⟨rfl, rfl, rfl, rfl, rfl, rfl, h21, p22, p23, -⟩
      refine q_if_ne 28 dX12_size_23 (by decide) (fun h24 => ?_) (fun h24 => ?_)
      · skip
        refine tr_aload_n dX12_size_28 rfl ?_
        refine tr_getN dX12_size_29 fl12_385 (kR15 hS6.1 ta0) d2 ?_
        refine tr_ifnonnullN dX12_size_32 ?_
        refine q_iconst dX12_size_35 (by decide) ?_
        intro v25 h26
        exact tr_iret hZ dX12_size_36 rfl (by decide) (by decide) ⟨v25, rfl, rfl, rfl, rfl, rfl, rfl, hS6, trivial⟩
      · skip
        refine q_iconst dX12_size_26 (by decide) ?_
        intro v27 h28
        exact tr_iret hZ dX12_size_27 rfl (by decide) (by decide) ⟨v27, rfl, rfl, rfl, rfl, rfl, rfl, hS6, trivial⟩
    · skip
      refine tr_aload_n dX12_size_11 rfl ?_
      obtain ⟨v29, c30⟩ : ∃ v, I0 a0 6 = v := ⟨_, rfl⟩
      have b31 := iv15_6 hW0 ta0 c30
      refine q_getI dX12_size_12 fl12_378 (kR15 hS6.1 ta0) ((hS6.cell ta0 (by decide +kernel)).trans c30) ?_
      exact tr_iret hZ dX12_size_15 rfl (by decide) (by decide) ⟨v29, rfl, rfl, rfl, rfl, rfl, rfl, hS6, trivial⟩
  · skip
    refine tr_aload_n dX12_size_0 rfl ?_
    refine q_iconst dX12_size_1 (by decide) ?_
    intro v32 h33
    refine q_putI dX12_size_2 fl12_70 (kR15 hS0.1 ta0) (Or.inl rfl) hS0 ta0 (iokF rfl) rfl (by decide +kernel) ?_
    intro I34 hS35 e36 f37
    refine tr_iload_n dX12_size_5 rfl ?_
    refine q_bipush dX12_size_6 (by decide +kernel) ?_
    intro v38 h39
    refine q_icmp_ne 16 dX12_size_8 (by decide) (fun h40 => ?_) (fun h40 => ?_)
    · skip
      refine tr_iload_n dX12_size_16 rfl ?_
      refine q_iconst dX12_size_17 (by decide) ?_
      intro v41 h42
      refine q_bipush dX12_size_18 (by decide +kernel) ?_
      intro v43 h44
      refine q_callSi hE (M' := mX12_in) (as := [_, _, _]) dX12_size_20 lk12_149 inX12_in myX12_in ⟨by decide, by decide⟩ rfl (Nat.le_of_ble_eq_true rfl) rfl rfl (by decide) (by decide) (k_X12_in hS35.1 ) ?_
      rintro v49 cn' K' N' I45 R46 L47 ⟨rfl, rfl, rfl, rfl, rfl, rfl, h50, p51, p52, -⟩
      refine q_if_ne 28 dX12_size_23 (by decide) (fun h53 => ?_) (fun h53 => ?_)
      · skip
        refine tr_aload_n dX12_size_28 rfl ?_
        refine tr_getR dX12_size_29 fl12_385 (kR15 hS35.1 ta0) d2 ?_
        refine tr_ifnonnull 37 dX12_size_32 (by decide) ?_
        refine tr_iload_n dX12_size_37 rfl ?_
        by_cases h54 : x1.toInt = 0
        · skip
          refine tr_tabIn (off := 58) 96 dX12_size_38 (by exact om_7c055b42 h54) (by exact om_c42f1c13 h54) (by rw [h54]; decide +kernel) (by decide) ?_
          refine tr_aload_n dX12_size_96 rfl ?_
          refine tr_getR dX12_size_97 fl12_385 (kR15 hS35.1 ta0) d2 ?_
          obtain ⟨v55, c56⟩ : ∃ v, I0 a1 0 = v := ⟨_, rfl⟩
          have b57 := hW0.2.2.2.2.2.1 a0 ta0 _ d2
          rw [c56] at b57
          have b58 := iv14_0 hW0 ta1 c56
          refine q_getI dX12_size_100 fl12_192 (kR14 hS35.1 ta1) ((hS35.cell ta1 (by decide +kernel)).trans c56) ?_
          exact tr_iret hZ dX12_size_103 rfl (by decide) (by decide) ⟨v55, rfl, rfl, rfl, rfl, rfl, rfl, hS35, trivial⟩
        · skip
          by_cases h59 : x1.toInt = 1
          · skip
            refine tr_tabIn (off := 66) 104 dX12_size_38 (by exact om_6183b2fb h59) (by exact om_363166db h59) (by rw [h59]; decide +kernel) (by decide) ?_
            refine tr_aload_n dX12_size_104 rfl ?_
            refine tr_getR dX12_size_105 fl12_385 (kR15 hS35.1 ta0) d2 ?_
            obtain ⟨v60, c61⟩ : ∃ v, I0 a1 1 = v := ⟨_, rfl⟩
            have b62 := iv14_1 hW0 ta1 c61
            refine q_getI dX12_size_108 fl12_263 (kR14 hS35.1 ta1) ((hS35.cell ta1 (by decide +kernel)).trans c61) ?_
            exact tr_iret hZ dX12_size_111 rfl (by decide) (by decide) ⟨v60, rfl, rfl, rfl, rfl, rfl, rfl, hS35, trivial⟩
          · skip
            by_cases h63 : x1.toInt = 2
            · skip
              refine tr_tabIn (off := 74) 112 dX12_size_38 (by exact om_1174f472 h63) (by exact om_8382fbeb h63) (by rw [h63]; decide +kernel) (by decide) ?_
              refine tr_aload_n dX12_size_112 rfl ?_
              refine tr_getR dX12_size_113 fl12_385 (kR15 hS35.1 ta0) d2 ?_
              obtain ⟨v64, c65⟩ : ∃ v, I0 a1 2 = v := ⟨_, rfl⟩
              have b66 := iv14_2 hW0 ta1 c65
              refine q_getI dX12_size_116 fl12_265 (kR14 hS35.1 ta1) ((hS35.cell ta1 (by decide +kernel)).trans c65) ?_
              exact tr_iret hZ dX12_size_119 rfl (by decide) (by decide) ⟨v64, rfl, rfl, rfl, rfl, rfl, rfl, hS35, trivial⟩
            · skip
              by_cases h67 : x1.toInt = 3
              · skip
                refine tr_tabIn (off := 82) 120 dX12_size_38 (by exact om_d4b200a6 h67) (by exact om_44f33f57 h67) (by rw [h67]; decide +kernel) (by decide) ?_
                refine tr_aload_n dX12_size_120 rfl ?_
                obtain ⟨a68, d69, ta68⟩ := rf15_16 hW0 ta0
                refine tr_getR dX12_size_121 fl12_17 (kR15 hS35.1 ta0) d69 ?_
                refine q_iconst dX12_size_124 (by decide) ?_
                intro v70 h71
                obtain ⟨v72, c73⟩ : ∃ v, I0 a68 1 = v := ⟨_, rfl⟩
                have b74 := iv77_1 hW0 ta68 (by decide) c73
                refine q_iald dX12_size_125 (kR77 hS35.1 ta68) (ti_in (nR77 hS35.1 ta68) (by exact om_f9079521 h71) (by exact om_73248752 h71)) ?_
                intro v75 c76
                rw [show v70.toNatClampNeg = 1 from ti_cl (by exact om_21c44602 h71)] at c76
                obtain rfl : v72 = v75 := (((hS35.cell ta68 (by decide +kernel)).trans c73)).symm.trans c76
                exact tr_iret hZ dX12_size_126 rfl (by decide) (by decide) ⟨v72, rfl, rfl, rfl, rfl, rfl, rfl, hS35, trivial⟩
              · skip
                by_cases h77 : x1.toInt = 4
                · skip
                  refine tr_tabIn (off := 89) 127 dX12_size_38 (by exact om_d336d452 h77) (by exact om_c44bd8a1 h77) (by rw [h77]; decide +kernel) (by decide) ?_
                  refine tr_aload_n dX12_size_127 rfl ?_
                  refine tr_getR dX12_size_128 fl12_385 (kR15 hS35.1 ta0) d2 ?_
                  obtain ⟨v78, c79⟩ : ∃ v, I0 a1 3 = v := ⟨_, rfl⟩
                  have b80 := iv14_3 hW0 ta1 c79
                  refine q_getI dX12_size_131 fl12_224 (kR14 hS35.1 ta1) ((hS35.cell ta1 (by decide +kernel)).trans c79) ?_
                  exact tr_iret hZ dX12_size_134 rfl (by decide) (by decide) ⟨v78, rfl, rfl, rfl, rfl, rfl, rfl, hS35, trivial⟩
                · skip
                  by_cases h81 : x1.toInt = 5
                  · skip
                    refine tr_tabIn (off := 97) 135 dX12_size_38 (by exact om_d3aa380d h81) (by exact om_ad16d05f h81) (by rw [h81]; decide +kernel) (by decide) ?_
                    refine tr_aload_n dX12_size_135 rfl ?_
                    refine tr_getR dX12_size_136 fl12_385 (kR15 hS35.1 ta0) d2 ?_
                    obtain ⟨v82, c83⟩ : ∃ v, I0 a1 4 = v := ⟨_, rfl⟩
                    have b84 := iv14_4 hW0 ta1 c83
                    refine q_getI dX12_size_139 fl12_315 (kR14 hS35.1 ta1) ((hS35.cell ta1 (by decide +kernel)).trans c83) ?_
                    exact tr_iret hZ dX12_size_142 rfl (by decide) (by decide) ⟨v82, rfl, rfl, rfl, rfl, rfl, rfl, hS35, trivial⟩
                  · skip
                    by_cases h85 : x1.toInt = 6
                    · skip
                      refine tr_tabIn (off := 105) 143 dX12_size_38 (by exact om_59370c92 h85) (by exact om_d52df6f8 h85) (by rw [h85]; decide +kernel) (by decide) ?_
                      refine tr_aload_n dX12_size_143 rfl ?_
                      refine tr_getR dX12_size_144 fl12_385 (kR15 hS35.1 ta0) d2 ?_
                      obtain ⟨v86, c87⟩ : ∃ v, I0 a1 5 = v := ⟨_, rfl⟩
                      have b88 := iv14_5 hW0 ta1 c87
                      refine q_getI dX12_size_147 fl12_349 (kR14 hS35.1 ta1) ((hS35.cell ta1 (by decide +kernel)).trans c87) ?_
                      exact tr_iret hZ dX12_size_150 rfl (by decide) (by decide) ⟨v86, rfl, rfl, rfl, rfl, rfl, rfl, hS35, trivial⟩
                    · skip
                      by_cases h89 : x1.toInt = 7
                      · skip
                        refine tr_tabIn (off := 113) 151 dX12_size_38 (by exact om_cec2ae46 h89) (by exact om_6dcc4ea4 h89) (by rw [h89]; decide +kernel) (by decide) ?_
                        refine tr_aload_n dX12_size_151 rfl ?_
                        refine tr_getR dX12_size_152 fl12_385 (kR15 hS35.1 ta0) d2 ?_
                        obtain ⟨v90, c91⟩ : ∃ v, I0 a1 6 = v := ⟨_, rfl⟩
                        have b92 := iv14_6 hW0 ta1 c91
                        refine q_getI dX12_size_155 fl12_370 (kR14 hS35.1 ta1) ((hS35.cell ta1 (by decide +kernel)).trans c91) ?_
                        exact tr_iret hZ dX12_size_158 rfl (by decide) (by decide) ⟨v90, rfl, rfl, rfl, rfl, rfl, rfl, hS35, trivial⟩
                      · skip
                        by_cases h93 : x1.toInt = 8
                        · skip
                          refine tr_tabIn (off := 121) 159 dX12_size_38 (by exact om_e7d54e08 h93) (by exact om_9c1f2089 h93) (by rw [h93]; decide +kernel) (by decide) ?_
                          refine tr_aload_n dX12_size_159 rfl ?_
                          refine tr_getR dX12_size_160 fl12_385 (kR15 hS35.1 ta0) d2 ?_
                          obtain ⟨v94, c95⟩ : ∃ v, I0 a1 8 = v := ⟨_, rfl⟩
                          have b96 := iv14_8 hW0 ta1 c95
                          refine q_getI dX12_size_163 fl12_312 (kR14 hS35.1 ta1) ((hS35.cell ta1 (by decide +kernel)).trans c95) ?_
                          exact tr_iret hZ dX12_size_166 rfl (by decide) (by decide) ⟨v94, rfl, rfl, rfl, rfl, rfl, rfl, hS35, trivial⟩
                        · skip
                          by_cases h97 : x1.toInt = 9
                          · skip
                            refine tr_tabIn (off := 129) 167 dX12_size_38 (by exact om_5471ed28 h97) (by exact om_f55037c3 h97) (by rw [h97]; decide +kernel) (by decide) ?_
                            refine tr_aload_n dX12_size_167 rfl ?_
                            obtain ⟨a98, d99, ta98⟩ := rf15_16 hW0 ta0
                            refine tr_getR dX12_size_168 fl12_17 (kR15 hS35.1 ta0) d99 ?_
                            refine q_iconst dX12_size_171 (by decide) ?_
                            intro v100 h101
                            obtain ⟨v102, c103⟩ : ∃ v, I0 a98 2 = v := ⟨_, rfl⟩
                            have b104 := iv77_2 hW0 ta98 (by decide) c103
                            refine q_iald dX12_size_172 (kR77 hS35.1 ta98) (ti_in (nR77 hS35.1 ta98) (by exact om_bf35f35a h101) (by exact om_b96ee957 h101)) ?_
                            intro v105 c106
                            rw [show v100.toNatClampNeg = 2 from ti_cl (by exact om_b0719f56 h101)] at c106
                            obtain rfl : v102 = v105 := (((hS35.cell ta98 (by decide +kernel)).trans c103)).symm.trans c106
                            exact tr_iret hZ dX12_size_173 rfl (by decide) (by decide) ⟨v102, rfl, rfl, rfl, rfl, rfl, rfl, hS35, trivial⟩
                          · skip
                            by_cases h107 : x1.toInt = 10
                            · skip
                              refine tr_tabIn (off := 136) 174 dX12_size_38 (by exact om_7c2750db h107) (by exact om_9fe41491 h107) (by rw [h107]; decide +kernel) (by decide) ?_
                              refine tr_aload_n dX12_size_174 rfl ?_
                              obtain ⟨v108, c109⟩ : ∃ v, I0 a0 19 = v := ⟨_, rfl⟩
                              have b110 := iv15_19 hW0 ta0 c109
                              refine q_getI dX12_size_175 fl12_387 (kR15 hS35.1 ta0) ((hS35.cell ta0 (by decide +kernel)).trans c109) ?_
                              exact tr_iret hZ dX12_size_178 rfl (by decide) (by decide) ⟨v108, rfl, rfl, rfl, rfl, rfl, rfl, hS35, trivial⟩
                            · skip
                              refine tr_tabOut 179 dX12_size_38 (by exact om_d7069119 h54 h59 h63 h67 h77 h81 h85 h89 h93 h97 h107) (by decide) ?_
                              refine tr_aload_n dX12_size_179 rfl ?_
                              obtain ⟨v111, c112⟩ : ∃ v, I0 a0 20 = v := ⟨_, rfl⟩
                              have b113 := iv15_20 hW0 ta0 c112
                              refine q_getI dX12_size_180 fl12_390 (kR15 hS35.1 ta0) ((hS35.cell ta0 (by decide +kernel)).trans c112) ?_
                              exact tr_iret hZ dX12_size_183 rfl (by decide) (by decide) ⟨v111, rfl, rfl, rfl, rfl, rfl, rfl, hS35, trivial⟩
      · skip
        refine q_iconst dX12_size_26 (by decide) ?_
        intro v114 h115
        exact tr_iret hZ dX12_size_27 rfl (by decide) (by decide) ⟨v114, rfl, rfl, rfl, rfl, rfl, rfl, hS35, trivial⟩
    · skip
      refine tr_aload_n dX12_size_11 rfl ?_
      obtain ⟨v116, c117⟩ : ∃ v, I0 a0 6 = v := ⟨_, rfl⟩
      have b118 := iv15_6 hW0 ta0 c117
      refine q_getI dX12_size_12 fl12_378 (kR15 hS35.1 ta0) ((hS35.cell ta0 (by decide +kernel)).trans c117) ?_
      exact tr_iret hZ dX12_size_15 rfl (by decide) (by decide) ⟨v116, rfl, rfl, rfl, rfl, rfl, rfl, hS35, trivial⟩
def wi_X12_trouble : List Nat := [960]
def wr_X12_trouble : List Nat := []
set_option maxHeartbeats 4000000 in
theorem k_X12_trouble {l : Launch} {T : Nat → Nat} {cn : Nat} {K N : Nat → Nat} {I0 : cz_I} {R0 : cz_R} {L0 : cz_L} {d : Int} (hW0 : Wf T cn K N I0 R0 d) {a0 : Nat} (ta0 : T a0 = 15) : ConE l mX12_trouble [.ref a0] cn K N I0 R0 L0 (ca_i (fun v cn' K' N' I' R' L' => cn = cn' ∧ K = K' ∧ N = N' ∧ R0 = R' ∧ L0 = L' ∧ St T cn K N d wi_X12_trouble wr_X12_trouble I0 R0 I' R0 ∧ True)) := by
  refine ConE.of (by decide +kernel) rfl (Nat.le_of_ble_eq_true rfl) rfl (fun X hX hZ hE => ?_)
  subst hX
  have hS0 : St T cn K N d wi_X12_trouble wr_X12_trouble I0 R0 I0 R0 := St.rf0 hW0
  refine tr_aload_n dX12_trouble_0 rfl ?_
  refine q_iconst dX12_trouble_1 (by decide) ?_
  intro v1 h2
  refine q_putI dX12_trouble_2 fl12_70 (kR15 hS0.1 ta0) (Or.inl rfl) hS0 ta0 (iokF rfl) rfl (by decide +kernel) ?_
  intro I3 hS4 e5 f6
  refine tr_aload_n dX12_trouble_5 rfl ?_
  obtain ⟨v7, c8⟩ : ∃ v, I0 a0 1 = v := ⟨_, rfl⟩
  refine q_getI dX12_trouble_6 fl12_73 (kR15 hS4.1 ta0) ((hS4.cell ta0 (by decide +kernel)).trans c8) ?_
  exact tr_iret hZ dX12_trouble_9 rfl (by decide) (by decide) ⟨v7, rfl, rfl, rfl, rfl, rfl, rfl, hS4, trivial⟩
def wi_X12_led : List Nat := [960, 5247, 5311, 5375, 5439, 5503, 5567, 5631, 5695, 5759, 5823, 5887, 5951, 6015]
def wr_X12_led : List Nat := []
set_option maxHeartbeats 4000000 in
theorem k_X12_led {l : Launch} {T : Nat → Nat} {cn : Nat} {K N : Nat → Nat} {I0 : cz_I} {R0 : cz_R} {L0 : cz_L} {d : Int} (hW0 : Wf T cn K N I0 R0 d) {a0 : Nat} (ta0 : T a0 = 15) {x1 : Int32} : ConE l mX12_led [.ref a0, .int x1] cn K N I0 R0 L0 (ca_i (fun v cn' K' N' I' R' L' => cn = cn' ∧ K = K' ∧ N = N' ∧ R0 = R' ∧ L0 = L' ∧ St T cn K N d wi_X12_led wr_X12_led I0 R0 I' R0 ∧ True)) := by
  refine ConE.of (by decide +kernel) rfl (Nat.le_of_ble_eq_true rfl) rfl (fun X hX hZ hE => ?_)
  subst hX
  have hS0 : St T cn K N d wi_X12_led wr_X12_led I0 R0 I0 R0 := St.rf0 hW0
  rcases rf15_3 hW0 ta0 with d2 | ⟨a1, d2, ta1⟩
  · skip
    refine tr_aload_n dX12_led_0 rfl ?_
    refine q_iconst dX12_led_1 (by decide) ?_
    intro v3 h4
    refine q_putI dX12_led_2 fl12_70 (kR15 hS0.1 ta0) (Or.inl rfl) hS0 ta0 (iokF rfl) rfl (by decide +kernel) ?_
    intro I5 hS6 e7 f8
    refine q_iconst dX12_led_5 (by decide) ?_
    intro v9 h10
    refine tr_istore_n dX12_led_6 (by decide) (by decide) ?_
    refine tr_aload_n dX12_led_7 rfl ?_
    refine tr_getN dX12_led_8 fl12_385 (kR15 hS6.1 ta0) d2 ?_
    refine tr_ifnullN 19 dX12_led_11 (by decide) ?_
    refine q_iconst dX12_led_19 (by decide) ?_
    intro v11 h12
    refine tr_istore_n dX12_led_20 (by decide) (by decide) ?_
    have lp22 : ∀ (fu : Nat) (ls : Nat → Option Value) (v13 : Int32) (v14 : Int32) (I19 : cz_I), ls 0 = some (.ref a0) → ls 1 = some (.int x1) → ls 2 = some (.int v13) → ls 3 = some (.int v14) → St T cn K N d wi_X12_led wr_X12_led I0 R0 I19 R0 → 0 ≤ v14.toInt → (-v14.toInt + 2147483647).toNat < fu → Tr X mX12_led 21 ls [] cn K N I19 R0 L0 0 0 := by
      intro fu
      induction fu with
      | zero => intros; rename_i hz; exact absurd hz (Nat.not_lt_zero _)
      | succ fu ih22 =>
        intro ls v13 v14 I19 hl15 hl16 hl17 hl18 hS20 g21 hm22
        refine tr_aload_n dX12_led_21 hl15 ?_
        refine tr_getN dX12_led_22 fl12_385 (kR15 hS20.1 ta0) d2 ?_
        refine tr_ifnullN 67 dX12_led_25 (by decide) ?_
        refine tr_aload_n dX12_led_67 hl15 ?_
        refine q_iconst dX12_led_68 (by decide) ?_
        intro v24 h25
        refine q_putI dX12_led_69 fl12_70 (kR15 hS20.1 ta0) (Or.inl rfl) hS20 ta0 (iokF rfl) rfl (by decide +kernel) ?_
        intro I26 hS27 e28 f29
        refine q_iconst dX12_led_72 (by decide) ?_
        intro v30 h31
        exact tr_iret hZ dX12_led_73 rfl (by decide) (by decide) ⟨v30, rfl, rfl, rfl, rfl, rfl, rfl, hS27, trivial⟩
    exact lp22 _ _ v9 v11 I5 rfl rfl rfl rfl hS6 (by exact om_d99fa9e4 h12) (Nat.lt_succ_self _)
  · skip
    refine tr_aload_n dX12_led_0 rfl ?_
    refine q_iconst dX12_led_1 (by decide) ?_
    intro v32 h33
    refine q_putI dX12_led_2 fl12_70 (kR15 hS0.1 ta0) (Or.inl rfl) hS0 ta0 (iokF rfl) rfl (by decide +kernel) ?_
    intro I34 hS35 e36 f37
    refine q_iconst dX12_led_5 (by decide) ?_
    intro v38 h39
    refine tr_istore_n dX12_led_6 (by decide) (by decide) ?_
    refine tr_aload_n dX12_led_7 rfl ?_
    refine tr_getR dX12_led_8 fl12_385 (kR15 hS35.1 ta0) d2 ?_
    refine tr_ifnull dX12_led_11 ?_
    refine tr_aload_n dX12_led_14 rfl ?_
    refine q_callVi hE (M' := mX12_tonight) (as := []) dX12_led_15 lk12_455 inX12_tonight seX12_tonight myX12_tonight (by decide) ⟨by decide, by decide⟩ rfl (kR15 hS35.1 ta0) (Nat.le_of_ble_eq_true rfl) rfl rfl (by decide) (by decide) (k_X12_tonight hS35.1 ta0 ⟨_, d2⟩) ?_
    rintro v44 cn' K' N' I40 R41 L42 ⟨rfl, rfl, rfl, rfl, rfl, g43, -⟩
    have hS45 := hS35.tr g43 (by decide +kernel) (by decide +kernel)
    have c46 : I40 a0 0 = v32 := (g43.cell ta0 (by decide +kernel)).trans e36
    refine tr_pop dX12_led_18 rfl ?_
    refine q_iconst dX12_led_19 (by decide) ?_
    intro v47 h48
    refine tr_istore_n dX12_led_20 (by decide) (by decide) ?_
    have lp58 : ∀ (fu : Nat) (ls : Nat → Option Value) (v49 : Int32) (v50 : Int32) (I55 : cz_I), ls 0 = some (.ref a0) → ls 1 = some (.int x1) → ls 2 = some (.int v49) → ls 3 = some (.int v50) → St T cn K N d wi_X12_led wr_X12_led I0 R0 I55 R0 → 0 ≤ v50.toInt → (-v50.toInt + 2147483647).toNat < fu → Tr X mX12_led 21 ls [] cn K N I55 R0 L0 0 0 := by
      intro fu
      induction fu with
      | zero => intros; rename_i hz; exact absurd hz (Nat.not_lt_zero _)
      | succ fu ih58 =>
        intro ls v49 v50 I55 hl51 hl52 hl53 hl54 hS56 g57 hm58
        refine tr_aload_n dX12_led_21 hl51 ?_
        refine tr_getR dX12_led_22 fl12_385 (kR15 hS56.1 ta0) d2 ?_
        refine tr_ifnull dX12_led_25 ?_
        refine tr_iload_n dX12_led_28 hl54 ?_
        refine tr_aload_n dX12_led_29 hl51 ?_
        refine tr_getR dX12_led_30 fl12_385 (kR15 hS56.1 ta0) d2 ?_
        obtain ⟨v60, c61⟩ : ∃ v, I0 a1 3 = v := ⟨_, rfl⟩
        have b62 := iv14_3 hW0 ta1 c61
        refine q_getI dX12_led_33 fl12_224 (kR14 hS56.1 ta1) ((hS56.cell ta1 (by decide +kernel)).trans c61) ?_
        refine q_icmp_ge 67 dX12_led_36 (by decide) (fun h63 => ?_) (fun h63 => ?_)
        · skip
          refine tr_aload_n dX12_led_67 hl51 ?_
          refine q_iconst dX12_led_68 (by decide) ?_
          intro v64 h65
          refine q_putI dX12_led_69 fl12_70 (kR15 hS56.1 ta0) (Or.inl rfl) hS56 ta0 (iokF rfl) rfl (by decide +kernel) ?_
          intro I66 hS67 e68 f69
          refine q_iconst dX12_led_72 (by decide) ?_
          intro v70 h71
          exact tr_iret hZ dX12_led_73 rfl (by decide) (by decide) ⟨v70, rfl, rfl, rfl, rfl, rfl, rfl, hS67, trivial⟩
        · skip
          refine tr_aload_n dX12_led_39 hl51 ?_
          obtain ⟨a72, d73, ta72⟩ := rf15_30 hW0 ta0
          refine tr_getR dX12_led_40 fl12_55 (kR15 hS56.1 ta0) d73 ?_
          refine tr_iload_n dX12_led_43 hl54 ?_
          refine q_iald dX12_led_44 (kR90 hS56.1 ta72) (ti_in (nR90 hS56.1 ta72) (by exact om_2cfcd5a5 g57) (by exact om_5f13cc30 b62.2 b62.1 h63)) ?_
          intro v74 c75
          refine q_if_ne 51 dX12_led_45 (by decide) (fun h76 => ?_) (fun h76 => ?_)
          · skip
            refine tr_iload_n dX12_led_51 hl53 ?_
            refine tr_iload_n dX12_led_52 hl52 ?_
            refine q_icmp_ne 58 dX12_led_53 (by decide) (fun h77 => ?_) (fun h77 => ?_)
            · skip
              refine q_iinc dX12_led_58 hl53 (by decide) ?_
              intro v78
              refine q_iincE dX12_led_61 hl54 (by decide) (by decide) (by intro j1 j2; exact om_4034714d g57 b62.2 b62.1 h63 j2) ?_
              intro v79 h80
              refine tr_goto 21 dX12_led_64 (by decide) ?_
              exact ih58 _ v78 v79 I55 hl51 hl52 rfl rfl hS56 (by exact om_68881c41 g57 h80) (by exact om_08c2005c g57 hm58 b62.2 b62.1 h63 h76 h77 h80)
            · skip
              refine tr_iload_n dX12_led_56 hl54 ?_
              exact tr_iret hZ dX12_led_57 rfl (by decide) (by decide) ⟨v50, rfl, rfl, rfl, rfl, rfl, rfl, hS56, trivial⟩
          · skip
            refine tr_goto 61 dX12_led_48 (by decide) ?_
            refine q_iincE dX12_led_61 hl54 (by decide) (by decide) (by intro j1 j2; exact om_4034714d g57 b62.2 b62.1 h63 j2) ?_
            intro v81 h82
            refine tr_goto 21 dX12_led_64 (by decide) ?_
            exact ih58 _ v49 v81 I55 hl51 hl52 hl53 rfl hS56 (by exact om_68881c41 g57 h82) (by exact om_fc025699 g57 hm58 b62.2 b62.1 h63 h82)
    exact lp58 _ _ v38 v47 I40 rfl rfl rfl rfl hS45 (by exact om_d99fa9e4 h48) (Nat.lt_succ_self _)
/-! ===== how far the reference has read ===== -/
def RdI (a : Nat) (I I' : cz_I) : Prop := ((I a 9).toInt = 5 → (I' a 9).toInt = 5) ∧ (I a 8).toInt ≤ (I' a 8).toInt ∧ (2 ≤ (I' a 9).toInt ∧ (I' a 9).toInt ≤ 4 → (I a 8).toInt + 1 ≤ (I' a 8).toInt) ∧ (((I a 9).toInt = 5 → 1 ≤ (I a 13).toInt) → ((I' a 9).toInt = 5 → 1 ≤ (I' a 13).toInt)) ∧ ((I a 9).toInt = 5 → (I' a 13).toInt = (I a 13).toInt ∧ (I' a 14).toInt = (I a 14).toInt)
def EwI (a : Nat) (I I' : cz_I) : Prop := (I' a 9 = I a 9 ∧ I' a 8 = I a 8 ∧ I' a 13 = I a 13 ∧ I' a 14 = I a 14) ∨ RdI a I I'
def Gd (s : Int32) (p : Prop) : Prop := s.toInt ≠ 5 → p
section CzRd
variable {a : Nat} {I J K : cz_I}
theorem EwI.rf (a : Nat) (I : cz_I) : EwI a I I := Or.inl ⟨rfl, rfl, rfl, rfl⟩
theorem RdI.rd (h : RdI a I J) (h2 : RdI a J K) : RdI a I K := by
  obtain ⟨a1, a2, a3, a4, a5⟩ := h
  obtain ⟨b1, b2, b3, b4, b5⟩ := h2
  exact ⟨fun z => b1 (a1 z), by exact om_e4846b87 a2 b2, fun z => by have := b3 z; exact om_2e16d73b a2 this, fun z y => b4 (a4 z) y, fun z => ⟨(b5 (a1 z)).1.trans (a5 z).1, (b5 (a1 z)).2.trans (a5 z).2⟩⟩
theorem EwI.rd (h : EwI a I J) (h2 : RdI a J K) : RdI a I K := by
  rcases h with ⟨e1, e2, e3, e4⟩ | h
  · unfold RdI at h2 ⊢; rw [e1, e2, e3, e4] at h2; exact h2
  · exact h.rd h2
theorem RdI.ew (h : RdI a I J) (h2 : EwI a J K) : RdI a I K := by
  rcases h2 with ⟨e1, e2, e3, e4⟩ | h2
  · unfold RdI at h ⊢; rw [e1, e2, e3, e4]; exact h
  · exact h.rd h2
theorem EwI.ew (h : EwI a I J) (h2 : EwI a J K) : EwI a I K := by
  rcases h with ⟨e1, e2, e3, e4⟩ | h
  · rcases h2 with ⟨f1, f2, f3, f4⟩ | h2
    · exact Or.inl ⟨f1.trans e1, f2.trans e2, f3.trans e3, f4.trans e4⟩
    · exact Or.inr (EwI.rd (Or.inl ⟨e1, e2, e3, e4⟩) h2)
  · exact Or.inr (h.ew h2)
theorem RdI.keep (h : RdI a I J) (e9 : K a 9 = J a 9) (e8 : K a 8 = J a 8) (e13 : K a 13 = J a 13) (e14 : K a 14 = J a 14) : RdI a I K := by
  unfold RdI at h ⊢; rw [e9, e8, e13, e14]; exact h
theorem EwI.keep (h : EwI a I J) (e9 : K a 9 = J a 9) (e8 : K a 8 = J a 8) (e13 : K a 13 = J a 13) (e14 : K a 14 = J a 14) : EwI a I K := by
  rcases h with ⟨x, y, z, w⟩ | h
  · exact Or.inl ⟨e9.trans x, e8.trans y, e13.trans z, e14.trans w⟩
  · exact Or.inr (h.keep e9 e8 e13 e14)
theorem RdI.stick (h : RdI a I J) : (I a 9).toInt = 5 → (J a 9).toInt = 5 := h.1
theorem EwI.stick (h : EwI a I J) : (I a 9).toInt = 5 → (J a 9).toInt = 5 := by
  rcases h with ⟨x, -, -, -⟩ | h
  · rw [x]; exact id
  · exact h.1
theorem RdI.over (h : RdI a I J) (h5 : (I a 9).toInt = 5) : (J a 9).toInt = 5 ∧ (J a 13).toInt = (I a 13).toInt ∧ (J a 14).toInt = (I a 14).toInt := ⟨h.1 h5, h.2.2.2.2 h5⟩
theorem EwI.over (h : EwI a I J) (h5 : (I a 9).toInt = 5) : (J a 9).toInt = 5 ∧ (J a 13).toInt = (I a 13).toInt ∧ (J a 14).toInt = (I a 14).toInt := by
  rcases h with ⟨x, -, y, z⟩ | h
  · rw [x, y, z]; exact ⟨h5, rfl, rfl⟩
  · exact h.over h5
theorem EwI.mono (h : EwI a I J) : (I a 8).toInt ≤ (J a 8).toInt := by
  rcases h with ⟨-, x, -⟩ | h
  · rw [x]; exact Int.le_refl _
  · exact h.2.1
theorem RdI.f4 (h : RdI a I J) : ((I a 9).toInt = 5 → 1 ≤ (I a 13).toInt) → ((J a 9).toInt = 5 → 1 ≤ (J a 13).toInt) := h.2.2.2.1
theorem EwI.f4 (h : EwI a I J) : ((I a 9).toInt = 5 → 1 ≤ (I a 13).toInt) → ((J a 9).toInt = 5 → 1 ≤ (J a 13).toInt) := by
  rcases h with ⟨x, -, z, -⟩ | h
  · rw [x, z]; exact id
  · exact h.2.2.2.1
theorem Gd.keep {s t : Int32} {p : Prop} (h : Gd s p) (e : t = s) : Gd t p := e ▸ h
theorem Gd.go {s t : Int32} {p : Prop} (h : Gd s p) (f : s.toInt = 5 → t.toInt = 5) : Gd t p := fun z => h (fun e => z (f e))
end CzRd
def wi_X12_flaw : List Nat := [969, 973, 974]
def wr_X12_flaw : List Nat := []
set_option maxHeartbeats 4000000 in
theorem k_X12_flaw {l : Launch} {T : Nat → Nat} {cn : Nat} {K N : Nat → Nat} {I0 : cz_I} {R0 : cz_R} {L0 : cz_L} {d : Int} (hW0 : Wf T cn K N I0 R0 d) {a0 : Nat} (ta0 : T a0 = 15) {x1 : Int32} (hx1 : 1 ≤ x1.toInt ∧ x1.toInt ≤ 6) : ConE l mX12_flaw [.ref a0, .int x1] cn K N I0 R0 L0 (ca_v (fun cn' K' N' I' R' L' => cn = cn' ∧ K = K' ∧ N = N' ∧ R0 = R' ∧ L0 = L' ∧ St T cn K N d wi_X12_flaw wr_X12_flaw I0 R0 I' R0 ∧ ((I' a0 9).toInt = 5) ∧ ((I' a0 8).toInt = (I0 a0 8).toInt) ∧ RdI a0 I0 I' ∧ True)) := by
  refine ConE.of (by decide +kernel) rfl (Nat.le_of_ble_eq_true rfl) rfl (fun X hX hZ hE => ?_)
  subst hX
  have hS0 : St T cn K N d wi_X12_flaw wr_X12_flaw I0 R0 I0 R0 := St.rf0 hW0
  obtain ⟨v1, c2⟩ : ∃ v, I0 a0 8 = v := ⟨_, rfl⟩
  have b3 := iv15_8 hW0 ta0 c2
  obtain ⟨v4, c5⟩ : ∃ v, I0 a0 9 = v := ⟨_, rfl⟩
  have b6 := iv15_9 hS0.1 ta0 c5
  obtain ⟨v7, c8⟩ : ∃ v, I0 a0 13 = v := ⟨_, rfl⟩
  obtain ⟨v9, c10⟩ : ∃ v, I0 a0 14 = v := ⟨_, rfl⟩
  refine tr_aload_n dX12_flaw_0 rfl ?_
  refine q_getI dX12_flaw_1 fl12_99 (kR15 hS0.1 ta0) c5 ?_
  refine q_iconst dX12_flaw_4 (by decide) ?_
  intro v11 h12
  refine q_icmp_ne 9 dX12_flaw_5 (by decide) (fun h13 => ?_) (fun h13 => ?_)
  · skip
    refine tr_aload_n dX12_flaw_9 rfl ?_
    refine tr_iload_n dX12_flaw_10 rfl ?_
    refine q_putI dX12_flaw_11 fl12_128 (kR15 hS0.1 ta0) (Or.inl rfl) hS0 ta0 (iokF rfl) rfl (by decide +kernel) ?_
    intro I14 hS15 e16 f17
    have c18 : I14 a0 9 = v4 := (f17 _ _ (fun q => absurd q.2 (by decide))).trans c5
    have c19 : I14 a0 14 = v9 := (f17 _ _ (fun q => absurd q.2 (by decide))).trans c10
    refine tr_aload_n dX12_flaw_14 rfl ?_
    refine tr_aload_n dX12_flaw_15 rfl ?_
    obtain ⟨v20, c21⟩ : ∃ v, I0 a0 10 = v := ⟨_, rfl⟩
    have b22 := iv15_10 hW0 ta0 c21
    refine q_getI dX12_flaw_16 fl12_108 (kR15 hS15.1 ta0) ((hS15.cell ta0 (by decide +kernel)).trans c21) ?_
    refine q_putI dX12_flaw_19 fl12_131 (kR15 hS15.1 ta0) (Or.inl rfl) hS15 ta0 (iokF rfl) rfl (by decide +kernel) ?_
    intro I23 hS24 e25 f26
    have c27 : I23 a0 9 = v4 := (f26 _ _ (fun q => absurd q.2 (by decide))).trans c18
    have c28 : I23 a0 13 = x1 := (f26 _ _ (fun q => absurd q.2 (by decide))).trans e16
    refine tr_aload_n dX12_flaw_22 rfl ?_
    refine q_iconst dX12_flaw_23 (by decide) ?_
    intro v29 h30
    refine q_putI dX12_flaw_24 fl12_99 (kR15 hS24.1 ta0) (Or.inl rfl) hS24 ta0 (by show (0 : Int) ≤ v29.toInt ∧ v29.toInt ≤ (5 : Int); exact om_441a285e h30) rfl (by decide +kernel) ?_
    intro I31 hS32 e33 f34
    have c35 : I31 a0 13 = x1 := (f34 _ _ (fun q => absurd q.2 (by decide))).trans c28
    have c36 : I31 a0 14 = v20 := (f34 _ _ (fun q => absurd q.2 (by decide))).trans e25
    exact tr_vret hZ dX12_flaw_27 rfl (by decide) (by decide) ⟨rfl, rfl, rfl, rfl, rfl, rfl, hS32, (by (try rw [e33]); (try exact om_394b70a2 h30)), (by (try rw [((hS32.cell ta0 (by decide +kernel)).trans c2)]); (try rw [c2]); (try omega)), (by unfold RdI; (try rw [c5]); (try rw [e33]); (try rw [c2]); (try rw [((hS32.cell ta0 (by decide +kernel)).trans c2)]); (try rw [c8]); (try rw [c35]); (try rw [c10]); (try rw [c36]); exact om_40ddfa37 hx1.2 hx1.1 h12 h13 h30), trivial⟩
  · skip
    exact tr_vret hZ dX12_flaw_8 rfl (by decide) (by decide) ⟨rfl, rfl, rfl, rfl, rfl, rfl, hS0, (by (try rw [c5]); (try exact om_080f1c8e h12 h13)), (by (try rw [c2]); (try omega)), (by unfold RdI; (try rw [c5]); (try rw [c2]); (try rw [c8]); (try rw [c10]); exact om_42d16d85 h12 h13), trivial⟩
set_option maxHeartbeats 4000000 in
theorem k_X12_isWord {l : Launch} {T : Nat → Nat} {cn : Nat} {K N : Nat → Nat} {I0 : cz_I} {R0 : cz_R} {L0 : cz_L} {d : Int} (hW0 : Wf T cn K N I0 R0 d) {a0 : Nat} (ta0 : T a0 = 15) {u1 : UInt32} (hu1 : u1.toNat < cz_NS) : ConE l mX12_isWord [.ref a0, .float u1] cn K N I0 R0 L0 (ca_i (fun v cn' K' N' I' R' L' => cn = cn' ∧ K = K' ∧ N = N' ∧ I0 = I' ∧ R0 = R' ∧ L0 = L' ∧ (0 ≤ v.toInt ∧ v.toInt ≤ 1) ∧ ((v.toInt = 1 → (I0 a0 9).toInt = 2)) ∧ True)) := by
  refine ConE.of (by decide +kernel) rfl (Nat.le_of_ble_eq_true rfl) rfl (fun X hX hZ hE => ?_)
  subst hX
  obtain ⟨v1, c2⟩ : ∃ v, I0 a0 9 = v := ⟨_, rfl⟩
  have b3 := iv15_9 hW0 ta0 c2
  refine tr_aload_n dX12_isWord_0 rfl ?_
  refine q_getI dX12_isWord_1 fl12_99 (kR15 hW0 ta0) c2 ?_
  refine q_iconst dX12_isWord_4 (by decide) ?_
  intro v4 h5
  refine q_icmp_ne 24 dX12_isWord_5 (by decide) (fun h6 => ?_) (fun h6 => ?_)
  · skip
    refine q_iconst dX12_isWord_24 (by decide) ?_
    intro v7 h8
    exact tr_zret hZ dX12_isWord_25 rfl (ti_b01 (by exact om_d99fa9e4 h8) (by exact om_d3de7ec9 h8)) (by decide) (by decide) ⟨v7, rfl, rfl, rfl, rfl, rfl, rfl, rfl, (by exact om_3b50ecb9 h8), (by (try rw [c2]); (try exact om_f0eaf98a h8)), trivial⟩
  · skip
    refine tr_aload_n dX12_isWord_8 rfl ?_
    refine q_getL dX12_isWord_9 fl12_118 (kR15 hW0 ta0) ?_
    intro y9
    refine tr_aload_nS dX12_isWord_12 rfl ?_
    refine q_callSl hE (M' := mX12_wordOf) (as := [_]) dX12_isWord_13 lk12_134 inX12_wordOf myX12_wordOf ⟨by decide, by decide⟩ rfl (Nat.le_of_ble_eq_true rfl) rfl rfl (by decide) (by decide) (k_X12_wordOf hW0 hu1) ?_
    rintro y14 cn' K' N' I10 R11 L12 ⟨rfl, rfl, rfl, rfl, rfl, rfl, -⟩
    refine q_lcmp dX12_isWord_16 ?_
    intro v15
    refine q_if_ne 24 dX12_isWord_17 (by decide) (fun h16 => ?_) (fun h16 => ?_)
    · skip
      refine q_iconst dX12_isWord_24 (by decide) ?_
      intro v17 h18
      exact tr_zret hZ dX12_isWord_25 rfl (ti_b01 (by exact om_d99fa9e4 h18) (by exact om_d3de7ec9 h18)) (by decide) (by decide) ⟨v17, rfl, rfl, rfl, rfl, rfl, rfl, rfl, (by exact om_3b50ecb9 h18), (by (try rw [c2]); (try exact om_f0eaf98a h18)), trivial⟩
    · skip
      refine q_iconst dX12_isWord_20 (by decide) ?_
      intro v19 h20
      refine tr_goto 25 dX12_isWord_21 (by decide) ?_
      exact tr_zret hZ dX12_isWord_25 rfl (ti_b01 (by exact om_f9079521 h20) (by exact om_e6632817 h20)) (by decide) (by decide) ⟨v19, rfl, rfl, rfl, rfl, rfl, rfl, rfl, (by exact om_d753bc65 h20), (by (try rw [c2]); (try exact om_f8852f3c h5 h6)), trivial⟩
set_option maxHeartbeats 4000000 in
theorem k_X12_byteAt {l : Launch} {T : Nat → Nat} {cn : Nat} {K N : Nat → Nat} {I0 : cz_I} {R0 : cz_R} {L0 : cz_L} {d : Int} (hW0 : Wf T cn K N I0 R0 d) {a0 : Nat} (ta0 : T a0 = 15) {x1 : Int32} (hx1 : 0 ≤ x1.toInt ∧ x1.toInt ≤ 900) : ConE l mX12_byteAt [.ref a0, .int x1] cn K N I0 R0 L0 (ca_i (fun v cn' K' N' I' R' L' => cn = cn' ∧ K = K' ∧ N = N' ∧ I0 = I' ∧ R0 = R' ∧ L0 = L' ∧ (((I0 a0 7).toInt ≤ x1.toInt → v.toInt = -1)) ∧ v = m_by I0 R0 a0 x1 ∧ True)) := by
  refine ConE.of (by decide +kernel) rfl (Nat.le_of_ble_eq_true rfl) rfl (fun X hX hZ hE => ?_)
  subst hX
  obtain ⟨v1, c2⟩ : ∃ v, I0 a0 7 = v := ⟨_, rfl⟩
  have b3 := iv15_7 hW0 ta0 c2
  refine tr_iload_n dX12_byteAt_0 rfl ?_
  refine tr_aload_n dX12_byteAt_1 rfl ?_
  refine q_getI dX12_byteAt_2 fl12_84 (kR15 hW0 ta0) c2 ?_
  refine q_icmp_ge 21 dX12_byteAt_5 (by decide) (fun h4 => ?_) (fun h4 => ?_)
  · skip
    refine q_iconst dX12_byteAt_21 (by decide) ?_
    intro v5 h6
    exact tr_iret hZ dX12_byteAt_22 rfl (by decide) (by decide) ⟨v5, rfl, rfl, rfl, rfl, rfl, rfl, rfl, (by (try rw [c2]); (try exact om_108df8b2 h6)), (by rw [m_by, c2, if_neg (by exact om_6569d783 h4)]; exact Int32.toInt_inj.mp (show v5.toInt = (-1 : Int32).toInt from h6.trans rfl)), trivial⟩
  · skip
    refine tr_aload_n dX12_byteAt_8 rfl ?_
    obtain ⟨a7, d8, ta7⟩ := rf15_5 hW0 ta0
    refine tr_getR dX12_byteAt_9 fl12_13 (kR15 hW0 ta0) d8 ?_
    refine tr_iload_n dX12_byteAt_12 rfl ?_
    refine q_bald dX12_byteAt_13 (kR76 hW0 ta7) (ti_in (nR76 hW0 ta7) (by exact om_cc59603c hx1.2 hx1.1) (by exact om_331d1cef hx1.2 hx1.1 b3.2 b3.1 h4)) ?_
    intro v9 c10
    have b11 := iv76 hW0 ta7 c10
    refine q_sipush dX12_byteAt_14 (by decide +kernel) ?_
    intro v12 h13
    refine q_iandE dX12_byteAt_17 ?_
    intro v14 h15
    refine tr_goto 22 dX12_byteAt_18 (by decide) ?_
    exact tr_iret hZ dX12_byteAt_22 rfl (by decide) (by decide) ⟨v14, rfl, rfl, rfl, rfl, rfl, rfl, rfl, (by (try rw [c2]); (try exact om_b22f3a01 h4)), (by rw [m_by, c2, if_pos (by exact om_b6fabb1f h4), rg_s d8, c10, h15, Int32.toInt_inj.mp (show v12.toInt = (255 : Int32).toInt from h13.trans rfl)]), trivial⟩
set_option maxHeartbeats 4000000 in
theorem k_X12_isLetter {l : Launch} {T : Nat → Nat} {cn : Nat} {K N : Nat → Nat} {I0 : cz_I} {R0 : cz_R} {L0 : cz_L} {d : Int} (hW0 : Wf T cn K N I0 R0 d) {x0 : Int32} : ConE l mX12_isLetter [.int x0] cn K N I0 R0 L0 (ca_i (fun v cn' K' N' I' R' L' => cn = cn' ∧ K = K' ∧ N = N' ∧ I0 = I' ∧ R0 = R' ∧ L0 = L' ∧ (0 ≤ v.toInt ∧ v.toInt ≤ 1) ∧ ((v.toInt = 1 → (97 ≤ x0.toInt ∧ x0.toInt ≤ 122))) ∧ ((v.toInt = 0 → (x0.toInt < 97 ∨ x0.toInt > 122))) ∧ True)) := by
  refine ConE.of (by decide +kernel) rfl (Nat.le_of_ble_eq_true rfl) rfl (fun X hX hZ hE => ?_)
  subst hX
  refine tr_iload_n dX12_isLetter_0 rfl ?_
  refine q_bipush dX12_isLetter_1 (by decide +kernel) ?_
  intro v1 h2
  refine q_icmp_lt 16 dX12_isLetter_3 (by decide) (fun h3 => ?_) (fun h3 => ?_)
  · skip
    refine q_iconst dX12_isLetter_16 (by decide) ?_
    intro v4 h5
    exact tr_zret hZ dX12_isLetter_17 rfl (ti_b01 (by exact om_d99fa9e4 h5) (by exact om_d3de7ec9 h5)) (by decide) (by decide) ⟨v4, rfl, rfl, rfl, rfl, rfl, rfl, rfl, (by exact om_3b50ecb9 h5), (by exact om_2259b929 h5), (by exact om_2c05b226 h2 h3), trivial⟩
  · skip
    refine tr_iload_n dX12_isLetter_6 rfl ?_
    refine q_bipush dX12_isLetter_7 (by decide +kernel) ?_
    intro v6 h7
    refine q_icmp_gt 16 dX12_isLetter_9 (by decide) (fun h8 => ?_) (fun h8 => ?_)
    · skip
      refine q_iconst dX12_isLetter_16 (by decide) ?_
      intro v9 h10
      exact tr_zret hZ dX12_isLetter_17 rfl (ti_b01 (by exact om_d99fa9e4 h10) (by exact om_d3de7ec9 h10)) (by decide) (by decide) ⟨v9, rfl, rfl, rfl, rfl, rfl, rfl, rfl, (by exact om_3b50ecb9 h10), (by exact om_2259b929 h10), (by exact om_c2ee61a4 h2 h3 h7 h8), trivial⟩
    · skip
      refine q_iconst dX12_isLetter_12 (by decide) ?_
      intro v11 h12
      refine tr_goto 17 dX12_isLetter_13 (by decide) ?_
      exact tr_zret hZ dX12_isLetter_17 rfl (ti_b01 (by exact om_f9079521 h12) (by exact om_e6632817 h12)) (by decide) (by decide) ⟨v11, rfl, rfl, rfl, rfl, rfl, rfl, rfl, (by exact om_d753bc65 h12), (by exact om_35873605 h2 h3 h7 h8), (by exact om_a3cd2d57 h12), trivial⟩
set_option maxHeartbeats 4000000 in
theorem k_X12_isDigit {l : Launch} {T : Nat → Nat} {cn : Nat} {K N : Nat → Nat} {I0 : cz_I} {R0 : cz_R} {L0 : cz_L} {d : Int} (hW0 : Wf T cn K N I0 R0 d) {x0 : Int32} : ConE l mX12_isDigit [.int x0] cn K N I0 R0 L0 (ca_i (fun v cn' K' N' I' R' L' => cn = cn' ∧ K = K' ∧ N = N' ∧ I0 = I' ∧ R0 = R' ∧ L0 = L' ∧ (0 ≤ v.toInt ∧ v.toInt ≤ 1) ∧ ((v.toInt = 1 → (48 ≤ x0.toInt ∧ x0.toInt ≤ 57))) ∧ ((v.toInt = 0 → (x0.toInt < 48 ∨ x0.toInt > 57))) ∧ True)) := by
  refine ConE.of (by decide +kernel) rfl (Nat.le_of_ble_eq_true rfl) rfl (fun X hX hZ hE => ?_)
  subst hX
  refine tr_iload_n dX12_isDigit_0 rfl ?_
  refine q_bipush dX12_isDigit_1 (by decide +kernel) ?_
  intro v1 h2
  refine q_icmp_lt 16 dX12_isDigit_3 (by decide) (fun h3 => ?_) (fun h3 => ?_)
  · skip
    refine q_iconst dX12_isDigit_16 (by decide) ?_
    intro v4 h5
    exact tr_zret hZ dX12_isDigit_17 rfl (ti_b01 (by exact om_d99fa9e4 h5) (by exact om_d3de7ec9 h5)) (by decide) (by decide) ⟨v4, rfl, rfl, rfl, rfl, rfl, rfl, rfl, (by exact om_3b50ecb9 h5), (by exact om_aa951ec3 h5), (by exact om_bffdb6ae h2 h3), trivial⟩
  · skip
    refine tr_iload_n dX12_isDigit_6 rfl ?_
    refine q_bipush dX12_isDigit_7 (by decide +kernel) ?_
    intro v6 h7
    refine q_icmp_gt 16 dX12_isDigit_9 (by decide) (fun h8 => ?_) (fun h8 => ?_)
    · skip
      refine q_iconst dX12_isDigit_16 (by decide) ?_
      intro v9 h10
      exact tr_zret hZ dX12_isDigit_17 rfl (ti_b01 (by exact om_d99fa9e4 h10) (by exact om_d3de7ec9 h10)) (by decide) (by decide) ⟨v9, rfl, rfl, rfl, rfl, rfl, rfl, rfl, (by exact om_3b50ecb9 h10), (by exact om_aa951ec3 h10), (by exact om_b264dbbe h2 h3 h7 h8), trivial⟩
    · skip
      refine q_iconst dX12_isDigit_12 (by decide) ?_
      intro v11 h12
      refine tr_goto 17 dX12_isDigit_13 (by decide) ?_
      exact tr_zret hZ dX12_isDigit_17 rfl (ti_b01 (by exact om_f9079521 h12) (by exact om_e6632817 h12)) (by decide) (by decide) ⟨v11, rfl, rfl, rfl, rfl, rfl, rfl, rfl, (by exact om_d753bc65 h12), (by exact om_af9fe6b5 h2 h3 h7 h8), (by exact om_6a1dfb49 h12), trivial⟩
def wi_X12_goesOn : List Nat := [968, 969, 970, 971, 972]
def wr_X12_goesOn : List Nat := []
set_option maxHeartbeats 4000000 in
theorem k_X12_goesOn {l : Launch} {T : Nat → Nat} {cn : Nat} {K N : Nat → Nat} {I0 : cz_I} {R0 : cz_R} {L0 : cz_L} {d : Int} (hW0 : Wf T cn K N I0 R0 d) {a0 : Nat} (ta0 : T a0 = 15) : ConE l mX12_goesOn [.ref a0] cn K N I0 R0 L0 (ca_v (fun cn' K' N' I' R' L' => cn = cn' ∧ K = K' ∧ N = N' ∧ R0 = R' ∧ St T cn K N d wi_X12_goesOn wr_X12_goesOn I0 R0 I' R0 ∧ (((I0 a0 9).toInt ≠ 5 → (I' a0 9).toInt ≠ 5)) ∧ (((I0 a0 9).toInt = 5 → (I' a0 9).toInt = 5)) ∧ (((I' a0 8).toInt ≥ (I0 a0 8).toInt ∧ (I' a0 13).toInt = (I0 a0 13).toInt)) ∧ RdI a0 I0 I' ∧ True)) := by
  refine ConE.of (by decide +kernel) rfl (Nat.le_of_ble_eq_true rfl) rfl (fun X hX hZ hE => ?_)
  subst hX
  have hS0 : St T cn K N d wi_X12_goesOn wr_X12_goesOn I0 R0 I0 R0 := St.rf0 hW0
  obtain ⟨v1, c2⟩ : ∃ v, I0 a0 9 = v := ⟨_, rfl⟩
  have b3 := iv15_9 hS0.1 ta0 c2
  obtain ⟨v4, c5⟩ : ∃ v, I0 a0 8 = v := ⟨_, rfl⟩
  have b6 := iv15_8 hS0.1 ta0 c5
  obtain ⟨v7, c8⟩ : ∃ v, I0 a0 13 = v := ⟨_, rfl⟩
  obtain ⟨v9, c10⟩ : ∃ v, I0 a0 14 = v := ⟨_, rfl⟩
  refine tr_aload_n dX12_goesOn_0 rfl ?_
  refine q_getI dX12_goesOn_1 fl12_99 (kR15 hS0.1 ta0) c2 ?_
  refine q_iconst dX12_goesOn_4 (by decide) ?_
  intro v11 h12
  refine q_icmp_ne 9 dX12_goesOn_5 (by decide) (fun h13 => ?_) (fun h13 => ?_)
  · skip
    have lp21 : ∀ (fu : Nat) (ls : Nat → Option Value) (I15 : cz_I) (L16 : cz_L) (v18 : Int32), ls 0 = some (.ref a0) → St T cn K N d wi_X12_goesOn wr_X12_goesOn I0 R0 I15 R0 → I15 a0 8 = v18 → v18.toInt ≥ v4.toInt → (-v18.toInt + 900).toNat < fu → Tr X mX12_goesOn 9 ls [] cn K N I15 R0 L16 0 0 := by
      intro fu
      induction fu with
      | zero => intros; rename_i hz; exact absurd hz (Nat.not_lt_zero _)
      | succ fu ih21 =>
        intro ls I15 L16 v18 hl14 hS17 c19 g20 hm21
        have b23 := iv15_8 hS17.1 ta0 c19
        refine tr_aload_n dX12_goesOn_9 hl14 ?_
        refine tr_aload_n dX12_goesOn_10 hl14 ?_
        refine q_getI dX12_goesOn_11 fl12_102 (kR15 hS17.1 ta0) c19 ?_
        obtain ⟨v24, c25⟩ : ∃ v, I0 a0 7 = v := ⟨_, rfl⟩
        have b26 := iv15_7 hW0 ta0 c25
        refine q_callVi hE (M' := mX12_byteAt) (as := [_]) dX12_goesOn_14 lk12_105 inX12_byteAt seX12_byteAt myX12_byteAt (by decide) ⟨by decide, by decide⟩ rfl (kR15 hS17.1 ta0) (Nat.le_of_ble_eq_true rfl) rfl rfl (by decide) (by decide) (k_X12_byteAt hS17.1 ta0 (by exact om_7caca98d b23)) ?_
        rintro v31 cn' K' N' I27 R28 L29 ⟨rfl, rfl, rfl, rfl, rfl, rfl, p32, r33, -⟩
        rw [((hS17.cell ta0 (by decide +kernel)).trans c25)] at p32
        refine q_bipush dX12_goesOn_17 (by decide +kernel) ?_
        intro v34 h35
        refine q_icmp_ne 35 dX12_goesOn_19 (by decide) (fun h36 => ?_) (fun h36 => ?_)
        · skip
          refine tr_aload_n dX12_goesOn_35 hl14 ?_
          refine tr_aload_n dX12_goesOn_36 hl14 ?_
          refine q_getI dX12_goesOn_37 fl12_102 (kR15 hS17.1 ta0) c19 ?_
          refine q_putI dX12_goesOn_40 fl12_108 (kR15 hS17.1 ta0) (Or.inl rfl) hS17 ta0 (by show (0 : Int) ≤ v18.toInt ∧ v18.toInt ≤ (900 : Int); exact om_7caca98d b23) rfl (by decide +kernel) ?_
          intro I37 hS38 e39 f40
          have c41 : I37 a0 8 = v18 := (f40 _ _ (fun q => absurd q.2 (by decide))).trans c19
          obtain ⟨a42, d43, ta42⟩ := rf15_5 hW0 ta0
          have r44 : v31 = m_by I37 R0 a0 v18 := r33.trans (m_by_kp d43 (f40 _ _ (fun q => absurd q.2 (by decide))) (fun i => f40 _ _ (fun q => by have z := ta42; rw [q.1, ta0] at z; exact absurd z (by decide))))
          refine tr_aload_n dX12_goesOn_43 hl14 ?_
          refine q_iconst dX12_goesOn_44 (by decide) ?_
          intro v45 h46
          refine q_putI dX12_goesOn_45 fl12_99 (kR15 hS38.1 ta0) (Or.inl rfl) hS38 ta0 (by show (0 : Int) ≤ v45.toInt ∧ v45.toInt ≤ (5 : Int); exact om_3597b99b h46) rfl (by decide +kernel) ?_
          intro I47 hS48 e49 f50
          have c51 : I47 a0 8 = v18 := (f50 _ _ (fun q => absurd q.2 (by decide))).trans c41
          have c52 : I47 a0 10 = v18 := (f50 _ _ (fun q => absurd q.2 (by decide))).trans e39
          have r53 : v31 = m_by I47 R0 a0 v18 := r44.trans (m_by_kp d43 (f50 _ _ (fun q => absurd q.2 (by decide))) (fun i => f50 _ _ (fun q => by have z := ta42; rw [q.1, ta0] at z; exact absurd z (by decide))))
          refine tr_aload_n dX12_goesOn_48 hl14 ?_
          refine q_iconst dX12_goesOn_49 (by decide) ?_
          intro v54 h55
          refine q_putI dX12_goesOn_50 fl12_111 (kR15 hS48.1 ta0) (Or.inl rfl) hS48 ta0 (iokF rfl) rfl (by decide +kernel) ?_
          intro I56 hS57 e58 f59
          have c60 : I56 a0 8 = v18 := (f59 _ _ (fun q => absurd q.2 (by decide))).trans c51
          have c61 : I56 a0 10 = v18 := (f59 _ _ (fun q => absurd q.2 (by decide))).trans c52
          have c62 : I56 a0 9 = v45 := (f59 _ _ (fun q => absurd q.2 (by decide))).trans e49
          have r63 : v31 = m_by I56 R0 a0 v18 := r53.trans (m_by_kp d43 (f59 _ _ (fun q => absurd q.2 (by decide))) (fun i => f59 _ _ (fun q => by have z := ta42; rw [q.1, ta0] at z; exact absurd z (by decide))))
          refine tr_aload_n dX12_goesOn_53 hl14 ?_
          refine tr_aload_n dX12_goesOn_54 hl14 ?_
          refine q_getI dX12_goesOn_55 fl12_102 (kR15 hS57.1 ta0) c60 ?_
          refine q_callVi hE (M' := mX12_byteAt) (as := [_]) dX12_goesOn_58 lk12_105 inX12_byteAt seX12_byteAt myX12_byteAt (by decide) ⟨by decide, by decide⟩ rfl (kR15 hS57.1 ta0) (Nat.le_of_ble_eq_true rfl) rfl rfl (by decide) (by decide) (k_X12_byteAt hS57.1 ta0 (by exact om_7caca98d b23)) ?_
          rintro v68 cn' K' N' I64 R65 L66 ⟨rfl, rfl, rfl, rfl, rfl, rfl, p69, r70, -⟩
          obtain rfl : v31 = v68 := r63.trans r70.symm
          rw [((hS57.cell ta0 (by decide +kernel)).trans c25)] at p69
          refine tr_istore_n dX12_goesOn_61 (by decide) (by decide) ?_
          refine q_iconst dX12_goesOn_62 (by decide) ?_
          intro v71 h72
          refine tr_istore_n dX12_goesOn_63 (by decide) (by decide) ?_
          refine tr_iload_n dX12_goesOn_64 rfl ?_
          refine q_iconst dX12_goesOn_65 (by decide) ?_
          intro v73 h74
          refine q_icmp_ne 77 dX12_goesOn_66 (by decide) (fun h75 => ?_) (fun h75 => ?_)
          · skip
            refine tr_iload_n dX12_goesOn_77 rfl ?_
            refine q_callSi hE (M' := mX12_isLetter) (as := [_]) dX12_goesOn_78 lk12_114 inX12_isLetter myX12_isLetter ⟨by decide, by decide⟩ rfl (Nat.le_of_ble_eq_true rfl) rfl rfl (by decide) (by decide) (k_X12_isLetter hS57.1 ) ?_
            rintro v80 cn' K' N' I76 R77 L78 ⟨rfl, rfl, rfl, rfl, rfl, rfl, h81, p82, p83, -⟩
            refine q_if_eq 166 dX12_goesOn_81 (by decide) (fun h84 => ?_) (fun h84 => ?_)
            · skip
              refine tr_iload_n dX12_goesOn_166 rfl ?_
              refine q_callSi hE (M' := mX12_isDigit) (as := [_]) dX12_goesOn_167 lk12_122 inX12_isDigit myX12_isDigit ⟨by decide, by decide⟩ rfl (Nat.le_of_ble_eq_true rfl) rfl rfl (by decide) (by decide) (k_X12_isDigit hS57.1 ) ?_
              rintro v89 cn' K' N' I85 R86 L87 ⟨rfl, rfl, rfl, rfl, rfl, rfl, h90, p91, p92, -⟩
              refine q_if_eq 249 dX12_goesOn_170 (by decide) (fun h93 => ?_) (fun h93 => ?_)
              · skip
                refine tr_iload_n dX12_goesOn_249 rfl ?_
                refine q_bipush dX12_goesOn_250 (by decide +kernel) ?_
                intro v94 h95
                refine q_icmp_eq 261 dX12_goesOn_252 (by decide) (fun h96 => ?_) (fun h96 => ?_)
                · skip
                  refine tr_aload_n dX12_goesOn_261 hl14 ?_
                  refine q_iconst dX12_goesOn_262 (by decide) ?_
                  intro v97 h98
                  refine q_putI dX12_goesOn_263 fl12_99 (kR15 hS57.1 ta0) (Or.inl rfl) hS57 ta0 (by show (0 : Int) ≤ v97.toInt ∧ v97.toInt ≤ (5 : Int); exact om_72a63b95 h98) rfl (by decide +kernel) ?_
                  intro I99 hS100 e101 f102
                  have c103 : I99 a0 8 = v18 := (f102 _ _ (fun q => absurd q.2 (by decide))).trans c60
                  have c104 : I99 a0 10 = v18 := (f102 _ _ (fun q => absurd q.2 (by decide))).trans c61
                  have c105 : I99 a0 11 = v54 := (f102 _ _ (fun q => absurd q.2 (by decide))).trans e58
                  have r106 : v31 = m_by I99 R0 a0 v18 := r63.trans (m_by_kp d43 (f102 _ _ (fun q => absurd q.2 (by decide))) (fun i => f102 _ _ (fun q => by have z := ta42; rw [q.1, ta0] at z; exact absurd z (by decide))))
                  refine tr_aload_n dX12_goesOn_266 hl14 ?_
                  refine tr_iload_n dX12_goesOn_267 rfl ?_
                  refine q_putI dX12_goesOn_268 fl12_111 (kR15 hS100.1 ta0) (Or.inl rfl) hS100 ta0 (iokF rfl) rfl (by decide +kernel) ?_
                  intro I107 hS108 e109 f110
                  have c111 : I107 a0 8 = v18 := (f110 _ _ (fun q => absurd q.2 (by decide))).trans c103
                  have c112 : I107 a0 10 = v18 := (f110 _ _ (fun q => absurd q.2 (by decide))).trans c104
                  have c113 : I107 a0 9 = v97 := (f110 _ _ (fun q => absurd q.2 (by decide))).trans e101
                  have r114 : v31 = m_by I107 R0 a0 v18 := r106.trans (m_by_kp d43 (f110 _ _ (fun q => absurd q.2 (by decide))) (fun i => f110 _ _ (fun q => by have z := ta42; rw [q.1, ta0] at z; exact absurd z (by decide))))
                  refine tr_aload_n dX12_goesOn_271 hl14 ?_
                  refine tr_dup dX12_goesOn_272 rfl ?_
                  refine q_getI dX12_goesOn_273 fl12_102 (kR15 hS108.1 ta0) c111 ?_
                  refine q_iconst dX12_goesOn_276 (by decide) ?_
                  intro v115 h116
                  refine q_iaddE dX12_goesOn_277 (by intro j1 j2 j3 j4; exact om_f1028c16 b23.2 b23.1 h116) ?_
                  intro v117 h118
                  refine q_putI dX12_goesOn_278 fl12_102 (kR15 hS108.1 ta0) (Or.inl rfl) hS108 ta0 (by show (0 : Int) ≤ v117.toInt ∧ v117.toInt ≤ (900 : Int); exact om_bd2183c8 b23.2 b23.1 b26.2 b26.1 p69 h74 h75 p82 p83 h84 p91 p92 h93 h95 h96 h116 h118) rfl (by decide +kernel) ?_
                  intro I119 hS120 e121 f122
                  have c123 : I119 a0 10 = v18 := (f122 _ _ (fun q => absurd q.2 (by decide))).trans c112
                  have c124 : I119 a0 9 = v97 := (f122 _ _ (fun q => absurd q.2 (by decide))).trans c113
                  have c125 : I119 a0 11 = v31 := (f122 _ _ (fun q => absurd q.2 (by decide))).trans e109
                  have r126 : v31 = m_by I119 R0 a0 v18 := r114.trans (m_by_kp d43 (f122 _ _ (fun q => absurd q.2 (by decide))) (fun i => f122 _ _ (fun q => by have z := ta42; rw [q.1, ta0] at z; exact absurd z (by decide))))
                  exact tr_vret hZ dX12_goesOn_281 rfl (by decide) (by decide) ⟨rfl, rfl, rfl, rfl, rfl, hS120, (by (try rw [c2]); (try rw [c124]); (try exact om_6467baa7 h98)), (by (try rw [c2]); (try rw [c124]); (try exact om_51065378 h12 h13 b23.2 b23.1 b26.2 b26.1 p32 h35 h36 p69 h74 h75 p82 p83 h84 p91 p92 h93 h95 h96 h98 h116 h118)), (by (try rw [e121]); (try rw [c5]); (try rw [((hS120.cell ta0 (by decide +kernel)).trans c8)]); (try rw [c8]); (try exact om_2caa336a g20 h116 h118)), (by unfold RdI; (try rw [c2]); (try rw [c124]); (try rw [c5]); (try rw [e121]); (try rw [c8]); (try rw [((hS120.cell ta0 (by decide +kernel)).trans c8)]); (try rw [c10]); (try rw [((hS120.cell ta0 (by decide +kernel)).trans c10)]); exact om_1468c8b3 h12 h13 g20 b23.2 b23.1 b26.2 b26.1 p32 h35 h36 p69 h74 h75 p82 p83 h84 p91 p92 h93 h95 h96 h98 h116 h118), trivial⟩
                · skip
                  refine tr_iload_n dX12_goesOn_255 rfl ?_
                  refine q_bipush dX12_goesOn_256 (by decide +kernel) ?_
                  intro v127 h128
                  refine q_icmp_ne 281 dX12_goesOn_258 (by decide) (fun h129 => ?_) (fun h129 => ?_)
                  · skip
                    exact tr_vret hZ dX12_goesOn_281 rfl (by decide) (by decide) ⟨rfl, rfl, rfl, rfl, rfl, hS57, (by (try rw [c2]); (try rw [c62]); (try exact om_77172d95 h46)), (by (try rw [c2]); (try rw [c62]); (try exact om_6397d2cf h12 h13 b23.2 b23.1 b26.2 b26.1 p32 h35 h36 h46 p69 h74 h75 p82 p83 h84 p91 p92 h93 h95 h96 h128 h129)), (by (try rw [c60]); (try rw [c5]); (try rw [((hS57.cell ta0 (by decide +kernel)).trans c8)]); (try rw [c8]); (try exact om_c6e191ba g20)), (by unfold RdI; (try rw [c2]); (try rw [c62]); (try rw [c5]); (try rw [c60]); (try rw [c8]); (try rw [((hS57.cell ta0 (by decide +kernel)).trans c8)]); (try rw [c10]); (try rw [((hS57.cell ta0 (by decide +kernel)).trans c10)]); exact om_154ac8db h12 h13 g20 b23.2 b23.1 b26.2 b26.1 p32 h35 h36 h46 p69 h74 h75 p82 p83 h84 p91 p92 h93 h95 h96 h128 h129), trivial⟩
                  · skip
                    refine tr_aload_n dX12_goesOn_261 hl14 ?_
                    refine q_iconst dX12_goesOn_262 (by decide) ?_
                    intro v130 h131
                    refine q_putI dX12_goesOn_263 fl12_99 (kR15 hS57.1 ta0) (Or.inl rfl) hS57 ta0 (by show (0 : Int) ≤ v130.toInt ∧ v130.toInt ≤ (5 : Int); exact om_72a63b95 h131) rfl (by decide +kernel) ?_
                    intro I132 hS133 e134 f135
                    have c136 : I132 a0 8 = v18 := (f135 _ _ (fun q => absurd q.2 (by decide))).trans c60
                    have c137 : I132 a0 10 = v18 := (f135 _ _ (fun q => absurd q.2 (by decide))).trans c61
                    have c138 : I132 a0 11 = v54 := (f135 _ _ (fun q => absurd q.2 (by decide))).trans e58
                    have r139 : v31 = m_by I132 R0 a0 v18 := r63.trans (m_by_kp d43 (f135 _ _ (fun q => absurd q.2 (by decide))) (fun i => f135 _ _ (fun q => by have z := ta42; rw [q.1, ta0] at z; exact absurd z (by decide))))
                    refine tr_aload_n dX12_goesOn_266 hl14 ?_
                    refine tr_iload_n dX12_goesOn_267 rfl ?_
                    refine q_putI dX12_goesOn_268 fl12_111 (kR15 hS133.1 ta0) (Or.inl rfl) hS133 ta0 (iokF rfl) rfl (by decide +kernel) ?_
                    intro I140 hS141 e142 f143
                    have c144 : I140 a0 8 = v18 := (f143 _ _ (fun q => absurd q.2 (by decide))).trans c136
                    have c145 : I140 a0 10 = v18 := (f143 _ _ (fun q => absurd q.2 (by decide))).trans c137
                    have c146 : I140 a0 9 = v130 := (f143 _ _ (fun q => absurd q.2 (by decide))).trans e134
                    have r147 : v31 = m_by I140 R0 a0 v18 := r139.trans (m_by_kp d43 (f143 _ _ (fun q => absurd q.2 (by decide))) (fun i => f143 _ _ (fun q => by have z := ta42; rw [q.1, ta0] at z; exact absurd z (by decide))))
                    refine tr_aload_n dX12_goesOn_271 hl14 ?_
                    refine tr_dup dX12_goesOn_272 rfl ?_
                    refine q_getI dX12_goesOn_273 fl12_102 (kR15 hS141.1 ta0) c144 ?_
                    refine q_iconst dX12_goesOn_276 (by decide) ?_
                    intro v148 h149
                    refine q_iaddE dX12_goesOn_277 (by intro j1 j2 j3 j4; exact om_f1028c16 b23.2 b23.1 h149) ?_
                    intro v150 h151
                    refine q_putI dX12_goesOn_278 fl12_102 (kR15 hS141.1 ta0) (Or.inl rfl) hS141 ta0 (by show (0 : Int) ≤ v150.toInt ∧ v150.toInt ≤ (900 : Int); exact om_ab4c6fb5 b23.2 b23.1 b26.2 b26.1 p69 h74 h75 p82 p83 h84 p91 p92 h93 h95 h96 h128 h129 h149 h151) rfl (by decide +kernel) ?_
                    intro I152 hS153 e154 f155
                    have c156 : I152 a0 10 = v18 := (f155 _ _ (fun q => absurd q.2 (by decide))).trans c145
                    have c157 : I152 a0 9 = v130 := (f155 _ _ (fun q => absurd q.2 (by decide))).trans c146
                    have c158 : I152 a0 11 = v31 := (f155 _ _ (fun q => absurd q.2 (by decide))).trans e142
                    have r159 : v31 = m_by I152 R0 a0 v18 := r147.trans (m_by_kp d43 (f155 _ _ (fun q => absurd q.2 (by decide))) (fun i => f155 _ _ (fun q => by have z := ta42; rw [q.1, ta0] at z; exact absurd z (by decide))))
                    exact tr_vret hZ dX12_goesOn_281 rfl (by decide) (by decide) ⟨rfl, rfl, rfl, rfl, rfl, hS153, (by (try rw [c2]); (try rw [c157]); (try exact om_6467baa7 h131)), (by (try rw [c2]); (try rw [c157]); (try exact om_49229947 h12 h13 b23.2 b23.1 b26.2 b26.1 p32 h35 h36 p69 h74 h75 p82 p83 h84 p91 p92 h93 h95 h96 h128 h129 h131 h149 h151)), (by (try rw [e154]); (try rw [c5]); (try rw [((hS153.cell ta0 (by decide +kernel)).trans c8)]); (try rw [c8]); (try exact om_2caa336a g20 h149 h151)), (by unfold RdI; (try rw [c2]); (try rw [c157]); (try rw [c5]); (try rw [e154]); (try rw [c8]); (try rw [((hS153.cell ta0 (by decide +kernel)).trans c8)]); (try rw [c10]); (try rw [((hS153.cell ta0 (by decide +kernel)).trans c10)]); exact om_bd2753a7 h12 h13 g20 b23.2 b23.1 b26.2 b26.1 p32 h35 h36 p69 h74 h75 p82 p83 h84 p91 p92 h93 h95 h96 h128 h129 h131 h149 h151), trivial⟩
              · skip
                refine tr_aload_n dX12_goesOn_173 hl14 ?_
                refine q_iconst dX12_goesOn_174 (by decide) ?_
                intro v160 h161
                refine q_putI dX12_goesOn_175 fl12_125 (kR15 hS57.1 ta0) (Or.inl rfl) hS57 ta0 (iokF rfl) rfl (by decide +kernel) ?_
                intro I162 hS163 e164 f165
                have c166 : I162 a0 8 = v18 := (f165 _ _ (fun q => absurd q.2 (by decide))).trans c60
                have c167 : I162 a0 10 = v18 := (f165 _ _ (fun q => absurd q.2 (by decide))).trans c61
                have c168 : I162 a0 9 = v45 := (f165 _ _ (fun q => absurd q.2 (by decide))).trans c62
                have c169 : I162 a0 11 = v54 := (f165 _ _ (fun q => absurd q.2 (by decide))).trans e58
                have r170 : v31 = m_by I162 R0 a0 v18 := r63.trans (m_by_kp d43 (f165 _ _ (fun q => absurd q.2 (by decide))) (fun i => f165 _ _ (fun q => by have z := ta42; rw [q.1, ta0] at z; exact absurd z (by decide))))
                refine tr_aload_n dX12_goesOn_178 hl14 ?_
                refine tr_aload_n dX12_goesOn_179 hl14 ?_
                refine q_getI dX12_goesOn_180 fl12_102 (kR15 hS163.1 ta0) c166 ?_
                refine q_callVi hE (M' := mX12_byteAt) (as := [_]) dX12_goesOn_183 lk12_105 inX12_byteAt seX12_byteAt myX12_byteAt (by decide) ⟨by decide, by decide⟩ rfl (kR15 hS163.1 ta0) (Nat.le_of_ble_eq_true rfl) rfl rfl (by decide) (by decide) (k_X12_byteAt hS163.1 ta0 (by exact om_7caca98d b23)) ?_
                rintro v175 cn' K' N' I171 R172 L173 ⟨rfl, rfl, rfl, rfl, rfl, rfl, p176, r177, -⟩
                obtain rfl : v31 = v175 := r170.trans r177.symm
                rw [((hS163.cell ta0 (by decide +kernel)).trans c25)] at p176
                refine q_callSi hE (M' := mX12_isDigit) (as := [_]) dX12_goesOn_186 lk12_122 inX12_isDigit myX12_isDigit ⟨by decide, by decide⟩ rfl (Nat.le_of_ble_eq_true rfl) rfl rfl (by decide) (by decide) (k_X12_isDigit hS163.1 ) ?_
                rintro v182 cn' K' N' I178 R179 L180 ⟨rfl, rfl, rfl, rfl, rfl, rfl, h183, p184, p185, -⟩
                refine q_if_eq 236 dX12_goesOn_189 (by decide) (fun h186 => ?_) (fun h186 => ?_)
                · skip
                  exfalso; exact om_5625feda h90.2 h90.1 p91 p92 h93 p176 p184 p185 h186
                · skip
                  refine tr_iload_n dX12_goesOn_192 rfl ?_
                  refine q_iconst dX12_goesOn_193 (by decide) ?_
                  intro v187 h188
                  refine q_icmp_ge 220 dX12_goesOn_194 (by decide) (fun h189 => ?_) (fun h189 => ?_)
                  · skip
                    exfalso; exact om_e4ba3e5e h72 h188 h189
                  · skip
                    refine tr_aload_n dX12_goesOn_197 hl14 ?_
                    refine q_bipush dX12_goesOn_198 (by decide +kernel) ?_
                    intro v190 h191
                    refine tr_aload_n dX12_goesOn_200 hl14 ?_
                    refine q_getI dX12_goesOn_201 fl12_125 (kR15 hS163.1 ta0) e164 ?_
                    refine q_imulE (c := 10) dX12_goesOn_204 (by exact om_e3967f06 h191) (by exact om_a6cebb2e h161) ?_
                    intro v192 h193
                    refine tr_aload_n dX12_goesOn_205 hl14 ?_
                    refine tr_aload_n dX12_goesOn_206 hl14 ?_
                    refine q_getI dX12_goesOn_207 fl12_102 (kR15 hS163.1 ta0) c166 ?_
                    refine q_callVi hE (M' := mX12_byteAt) (as := [_]) dX12_goesOn_210 lk12_105 inX12_byteAt seX12_byteAt myX12_byteAt (by decide) ⟨by decide, by decide⟩ rfl (kR15 hS163.1 ta0) (Nat.le_of_ble_eq_true rfl) rfl rfl (by decide) (by decide) (k_X12_byteAt hS163.1 ta0 (by exact om_7caca98d b23)) ?_
                    rintro v198 cn' K' N' I194 R195 L196 ⟨rfl, rfl, rfl, rfl, rfl, rfl, p199, r200, -⟩
                    obtain rfl : v31 = v198 := r170.trans r200.symm
                    rw [((hS163.cell ta0 (by decide +kernel)).trans c25)] at p199
                    refine q_iaddE dX12_goesOn_213 (by intro j1 j2 j3 j4; exact om_29844ae9 h161 h193 j3 j4) ?_
                    intro v201 h202
                    refine q_bipush dX12_goesOn_214 (by decide +kernel) ?_
                    intro v203 h204
                    refine q_isubE dX12_goesOn_216 (by intro j1 j2 j3 j4; exact om_8c3a63ba h161 h183.2 h183.1 p184 p185 h186 h193 p199 h202 h204 j1 j2) ?_
                    intro v205 h206
                    refine q_putI dX12_goesOn_217 fl12_125 (kR15 hS163.1 ta0) (Or.inl rfl) hS163 ta0 (iokF rfl) rfl (by decide +kernel) ?_
                    intro I207 hS208 e209 f210
                    have c211 : I207 a0 8 = v18 := (f210 _ _ (fun q => absurd q.2 (by decide))).trans c166
                    have c212 : I207 a0 10 = v18 := (f210 _ _ (fun q => absurd q.2 (by decide))).trans c167
                    have c213 : I207 a0 9 = v45 := (f210 _ _ (fun q => absurd q.2 (by decide))).trans c168
                    have c214 : I207 a0 11 = v54 := (f210 _ _ (fun q => absurd q.2 (by decide))).trans c169
                    have r215 : v31 = m_by I207 R0 a0 v18 := r170.trans (m_by_kp d43 (f210 _ _ (fun q => absurd q.2 (by decide))) (fun i => f210 _ _ (fun q => by have z := ta42; rw [q.1, ta0] at z; exact absurd z (by decide))))
                    refine q_iincE dX12_goesOn_220 rfl (by decide) (by decide) (by intro j1 j2; exact om_502d7b61 h72) ?_
                    intro v216 h217
                    refine tr_aload_n dX12_goesOn_223 hl14 ?_
                    refine tr_dup dX12_goesOn_224 rfl ?_
                    refine q_getI dX12_goesOn_225 fl12_102 (kR15 hS208.1 ta0) c211 ?_
                    refine q_iconst dX12_goesOn_228 (by decide) ?_
                    intro v218 h219
                    refine q_iaddE dX12_goesOn_229 (by intro j1 j2 j3 j4; exact om_f1028c16 b23.2 b23.1 h219) ?_
                    intro v220 h221
                    refine q_putI dX12_goesOn_230 fl12_102 (kR15 hS208.1 ta0) (Or.inl rfl) hS208 ta0 (by show (0 : Int) ≤ v220.toInt ∧ v220.toInt ≤ (900 : Int); exact om_6a12fa12 b23.2 b23.1 b26.2 b26.1 h161 h183.2 h183.1 p184 p185 h186 h193 p199 h202 h204 h206 h219 h221) rfl (by decide +kernel) ?_
                    intro I222 hS223 e224 f225
                    have c226 : I222 a0 10 = v18 := (f225 _ _ (fun q => absurd q.2 (by decide))).trans c212
                    have c227 : I222 a0 9 = v45 := (f225 _ _ (fun q => absurd q.2 (by decide))).trans c213
                    have c228 : I222 a0 11 = v54 := (f225 _ _ (fun q => absurd q.2 (by decide))).trans c214
                    have c229 : I222 a0 12 = v205 := (f225 _ _ (fun q => absurd q.2 (by decide))).trans e209
                    have r230 : v31 = m_by I222 R0 a0 v18 := r215.trans (m_by_kp d43 (f225 _ _ (fun q => absurd q.2 (by decide))) (fun i => f225 _ _ (fun q => by have z := ta42; rw [q.1, ta0] at z; exact absurd z (by decide))))
                    refine tr_goto 178 dX12_goesOn_233 (by decide) ?_
                    have lp244 : ∀ (fu : Nat) (ls : Nat → Option Value) (v231 : Int32) (I235 : cz_I) (L236 : cz_L) (v238 : Int32) (v240 : Int32), ls 0 = some (.ref a0) → ls 1 = some (.int v31) → ls 2 = some (.int v231) → St T cn K N d wi_X12_goesOn wr_X12_goesOn I0 R0 I235 R0 → I235 a0 8 = v238 → I235 a0 9 = v240 → v240.toInt = 0 → v238.toInt ≥ v4.toInt + 1 → (-v238.toInt + 900).toNat < fu → Tr X mX12_goesOn 178 ls [] cn K N I235 R0 L236 0 0 := by
                      intro fu
                      induction fu with
                      | zero => intros; rename_i hz; exact absurd hz (Nat.not_lt_zero _)
                      | succ fu ih244 =>
                        intro ls v231 I235 L236 v238 v240 hl232 hl233 hl234 hS237 c239 c241 g242 g243 hm244
                        have b246 := iv15_8 hS237.1 ta0 c239
                        have b247 := iv15_9 hS237.1 ta0 c241
                        refine tr_aload_n dX12_goesOn_178 hl232 ?_
                        refine tr_aload_n dX12_goesOn_179 hl232 ?_
                        refine q_getI dX12_goesOn_180 fl12_102 (kR15 hS237.1 ta0) c239 ?_
                        refine q_callVi hE (M' := mX12_byteAt) (as := [_]) dX12_goesOn_183 lk12_105 inX12_byteAt seX12_byteAt myX12_byteAt (by decide) ⟨by decide, by decide⟩ rfl (kR15 hS237.1 ta0) (Nat.le_of_ble_eq_true rfl) rfl rfl (by decide) (by decide) (k_X12_byteAt hS237.1 ta0 (by exact om_7caca98d b246)) ?_
                        rintro v252 cn' K' N' I248 R249 L250 ⟨rfl, rfl, rfl, rfl, rfl, rfl, p253, r254, -⟩
                        rw [((hS237.cell ta0 (by decide +kernel)).trans c25)] at p253
                        refine q_callSi hE (M' := mX12_isDigit) (as := [_]) dX12_goesOn_186 lk12_122 inX12_isDigit myX12_isDigit ⟨by decide, by decide⟩ rfl (Nat.le_of_ble_eq_true rfl) rfl rfl (by decide) (by decide) (k_X12_isDigit hS237.1 ) ?_
                        rintro v259 cn' K' N' I255 R256 L257 ⟨rfl, rfl, rfl, rfl, rfl, rfl, h260, p261, p262, -⟩
                        refine q_if_eq 236 dX12_goesOn_189 (by decide) (fun h263 => ?_) (fun h263 => ?_)
                        · skip
                          refine tr_iload_n dX12_goesOn_236 hl234 ?_
                          refine q_iconst dX12_goesOn_237 (by decide) ?_
                          intro v264 h265
                          refine q_icmp_gt 281 dX12_goesOn_238 (by decide) (fun h266 => ?_) (fun h266 => ?_)
                          · skip
                            exact tr_vret hZ dX12_goesOn_281 rfl (by decide) (by decide) ⟨rfl, rfl, rfl, rfl, rfl, hS237, (by (try rw [c2]); (try rw [c241]); (try exact om_77172d95 g242)), (by (try rw [c2]); (try rw [c241]); (try exact om_e0263ffb h12 h13 b23.2 b23.1 b26.2 b26.1 p32 h35 h36 p69 h74 h75 p82 p83 h84 h90.2 h90.1 p91 p92 h93 h161 p176 h183.2 h183.1 p184 p185 h186 h193 p199 h202 h204 h206 h219 h221 g242 b246.2 b246.1 p253 p261 p262 h263)), (by (try rw [c239]); (try rw [c5]); (try rw [((hS237.cell ta0 (by decide +kernel)).trans c8)]); (try rw [c8]); (try exact om_fb364a05 g243)), (by unfold RdI; (try rw [c2]); (try rw [c241]); (try rw [c5]); (try rw [c239]); (try rw [c8]); (try rw [((hS237.cell ta0 (by decide +kernel)).trans c8)]); (try rw [c10]); (try rw [((hS237.cell ta0 (by decide +kernel)).trans c10)]); exact om_7772af23 h12 h13 b23.2 b23.1 b26.2 b26.1 p32 h35 h36 p69 h74 h75 p82 p83 h84 h90.2 h90.1 p91 p92 h93 h161 p176 h183.2 h183.1 p184 p185 h186 h193 p199 h202 h204 h206 h219 h221 g242 g243 b246.2 b246.1 p253 p261 p262 h263), trivial⟩
                          · skip
                            refine tr_aload_n dX12_goesOn_241 hl232 ?_
                            refine q_iconst dX12_goesOn_242 (by decide) ?_
                            intro v267 h268
                            refine q_putI dX12_goesOn_243 fl12_99 (kR15 hS237.1 ta0) (Or.inl rfl) hS237 ta0 (by show (0 : Int) ≤ v267.toInt ∧ v267.toInt ≤ (5 : Int); exact om_cfcdcb1e h268) rfl (by decide +kernel) ?_
                            intro I269 hS270 e271 f272
                            have c273 : I269 a0 8 = v238 := (f272 _ _ (fun q => absurd q.2 (by decide))).trans c239
                            have r274 : v252 = m_by I269 R0 a0 v238 := r254.trans (m_by_kp d43 (f272 _ _ (fun q => absurd q.2 (by decide))) (fun i => f272 _ _ (fun q => by have z := ta42; rw [q.1, ta0] at z; exact absurd z (by decide))))
                            refine tr_goto 281 dX12_goesOn_246 (by decide) ?_
                            exact tr_vret hZ dX12_goesOn_281 rfl (by decide) (by decide) ⟨rfl, rfl, rfl, rfl, rfl, hS270, (by (try rw [c2]); (try rw [e271]); (try exact om_4497afe5 h268)), (by (try rw [c2]); (try rw [e271]); (try exact om_eff85553 h12 h13 b23.2 b23.1 b26.2 b26.1 p32 h35 h36 p69 h74 h75 p82 p83 h84 h90.2 h90.1 p91 p92 h93 h161 p176 h183.2 h183.1 p184 p185 h186 h193 p199 h202 h204 h206 h219 h221 b246.2 b246.1 p253 p261 p262 h263 h268)), (by (try rw [c273]); (try rw [c5]); (try rw [((hS270.cell ta0 (by decide +kernel)).trans c8)]); (try rw [c8]); (try exact om_fb364a05 g243)), (by unfold RdI; (try rw [c2]); (try rw [e271]); (try rw [c5]); (try rw [c273]); (try rw [c8]); (try rw [((hS270.cell ta0 (by decide +kernel)).trans c8)]); (try rw [c10]); (try rw [((hS270.cell ta0 (by decide +kernel)).trans c10)]); exact om_3b854aa1 h12 h13 b23.2 b23.1 b26.2 b26.1 p32 h35 h36 p69 h74 h75 p82 p83 h84 h90.2 h90.1 p91 p92 h93 h161 p176 h183.2 h183.1 p184 p185 h186 h193 p199 h202 h204 h206 h219 h221 g243 b246.2 b246.1 p253 p261 p262 h263 h268), trivial⟩
                        · skip
                          refine tr_iload_n dX12_goesOn_192 hl234 ?_
                          refine q_iconst dX12_goesOn_193 (by decide) ?_
                          intro v275 h276
                          refine q_icmp_ge 220 dX12_goesOn_194 (by decide) (fun h277 => ?_) (fun h277 => ?_)
                          · skip
                            refine q_iinc dX12_goesOn_220 hl234 (by decide) ?_
                            intro v278
                            refine tr_aload_n dX12_goesOn_223 hl232 ?_
                            refine tr_dup dX12_goesOn_224 rfl ?_
                            refine q_getI dX12_goesOn_225 fl12_102 (kR15 hS237.1 ta0) c239 ?_
                            refine q_iconst dX12_goesOn_228 (by decide) ?_
                            intro v279 h280
                            refine q_iaddE dX12_goesOn_229 (by intro j1 j2 j3 j4; exact om_67ae0bfe b6.2 b6.1 g243 b246.2 b246.1 h280) ?_
                            intro v281 h282
                            refine q_putI dX12_goesOn_230 fl12_102 (kR15 hS237.1 ta0) (Or.inl rfl) hS237 ta0 (by show (0 : Int) ≤ v281.toInt ∧ v281.toInt ≤ (900 : Int); exact om_0a5cec65 b26.2 b26.1 b246.2 b246.1 p253 h260.2 h260.1 p261 p262 h263 h280 h282) rfl (by decide +kernel) ?_
                            intro I283 hS284 e285 f286
                            have c287 : I283 a0 9 = v240 := (f286 _ _ (fun q => absurd q.2 (by decide))).trans c241
                            have r288 : v252 = m_by I283 R0 a0 v238 := r254.trans (m_by_kp d43 (f286 _ _ (fun q => absurd q.2 (by decide))) (fun i => f286 _ _ (fun q => by have z := ta42; rw [q.1, ta0] at z; exact absurd z (by decide))))
                            refine tr_goto 178 dX12_goesOn_233 (by decide) ?_
                            exact ih244 _ v278 I283 L236 v281 v240 hl232 hl233 rfl hS284 e285 c287 (by exact om_29f55913 g242) (by exact om_08d1743c g243 h280 h282) (by exact om_713a877f b26.2 b26.1 hm244 b246.2 b246.1 p253 h260.2 h260.1 p261 p262 h263 h280 h282)
                          · skip
                            refine tr_aload_n dX12_goesOn_197 hl232 ?_
                            refine q_bipush dX12_goesOn_198 (by decide +kernel) ?_
                            intro v289 h290
                            refine tr_aload_n dX12_goesOn_200 hl232 ?_
                            obtain ⟨v291, c292⟩ : ∃ v, I235 a0 12 = v := ⟨_, rfl⟩
                            refine q_getI dX12_goesOn_201 fl12_125 (kR15 hS237.1 ta0) c292 ?_
                            refine q_imul dX12_goesOn_204 ?_
                            intro v293
                            refine tr_aload_n dX12_goesOn_205 hl232 ?_
                            refine tr_aload_n dX12_goesOn_206 hl232 ?_
                            refine q_getI dX12_goesOn_207 fl12_102 (kR15 hS237.1 ta0) c239 ?_
                            refine q_callVi hE (M' := mX12_byteAt) (as := [_]) dX12_goesOn_210 lk12_105 inX12_byteAt seX12_byteAt myX12_byteAt (by decide) ⟨by decide, by decide⟩ rfl (kR15 hS237.1 ta0) (Nat.le_of_ble_eq_true rfl) rfl rfl (by decide) (by decide) (k_X12_byteAt hS237.1 ta0 (by exact om_7caca98d b246)) ?_
                            rintro v298 cn' K' N' I294 R295 L296 ⟨rfl, rfl, rfl, rfl, rfl, rfl, p299, r300, -⟩
                            obtain rfl : v252 = v298 := r254.trans r300.symm
                            rw [((hS237.cell ta0 (by decide +kernel)).trans c25)] at p299
                            refine q_iadd dX12_goesOn_213 ?_
                            intro v301
                            refine q_bipush dX12_goesOn_214 (by decide +kernel) ?_
                            intro v302 h303
                            refine q_isub dX12_goesOn_216 ?_
                            intro v304
                            refine q_putI dX12_goesOn_217 fl12_125 (kR15 hS237.1 ta0) (Or.inl rfl) hS237 ta0 (iokF rfl) rfl (by decide +kernel) ?_
                            intro I305 hS306 e307 f308
                            have c309 : I305 a0 8 = v238 := (f308 _ _ (fun q => absurd q.2 (by decide))).trans c239
                            have c310 : I305 a0 9 = v240 := (f308 _ _ (fun q => absurd q.2 (by decide))).trans c241
                            have r311 : v252 = m_by I305 R0 a0 v238 := r254.trans (m_by_kp d43 (f308 _ _ (fun q => absurd q.2 (by decide))) (fun i => f308 _ _ (fun q => by have z := ta42; rw [q.1, ta0] at z; exact absurd z (by decide))))
                            refine q_iincE dX12_goesOn_220 hl234 (by decide) (by decide) (by intro j1 j2; exact om_bcfded95 h276 h277 j1) ?_
                            intro v312 h313
                            refine tr_aload_n dX12_goesOn_223 hl232 ?_
                            refine tr_dup dX12_goesOn_224 rfl ?_
                            refine q_getI dX12_goesOn_225 fl12_102 (kR15 hS306.1 ta0) c309 ?_
                            refine q_iconst dX12_goesOn_228 (by decide) ?_
                            intro v314 h315
                            refine q_iaddE dX12_goesOn_229 (by intro j1 j2 j3 j4; exact om_67ae0bfe b6.2 b6.1 g243 b246.2 b246.1 h315) ?_
                            intro v316 h317
                            refine q_putI dX12_goesOn_230 fl12_102 (kR15 hS306.1 ta0) (Or.inl rfl) hS306 ta0 (by show (0 : Int) ≤ v316.toInt ∧ v316.toInt ≤ (900 : Int); exact om_9a312d62 b26.2 b26.1 b246.2 b246.1 h260.2 h260.1 p261 p262 h263 p299 h315 h317) rfl (by decide +kernel) ?_
                            intro I318 hS319 e320 f321
                            have c322 : I318 a0 9 = v240 := (f321 _ _ (fun q => absurd q.2 (by decide))).trans c310
                            have c323 : I318 a0 12 = v304 := (f321 _ _ (fun q => absurd q.2 (by decide))).trans e307
                            have r324 : v252 = m_by I318 R0 a0 v238 := r311.trans (m_by_kp d43 (f321 _ _ (fun q => absurd q.2 (by decide))) (fun i => f321 _ _ (fun q => by have z := ta42; rw [q.1, ta0] at z; exact absurd z (by decide))))
                            refine tr_goto 178 dX12_goesOn_233 (by decide) ?_
                            exact ih244 _ v312 I318 L236 v316 v240 hl232 hl233 rfl hS319 e320 c322 (by exact om_29f55913 g242) (by exact om_08d1743c g243 h315 h317) (by exact om_b1003737 b26.2 b26.1 hm244 b246.2 b246.1 p253 h260.2 h260.1 p261 p262 h263 p299 h315 h317)
                    exact lp244 _ _ v216 I222 L16 v220 v45 hl14 rfl rfl hS223 e224 c227 (by exact om_29f55913 h46) (by exact om_dda1c80b g20 h219 h221) (Nat.lt_succ_self _)
            · skip
              refine tr_aload_n dX12_goesOn_84 hl14 ?_
              refine q_lconst dX12_goesOn_85 ?_
              intro y325
              refine q_putL dX12_goesOn_86 fl12_118 (kR15 hS57.1 ta0) (Or.inl rfl) ?_
              intro L326
              refine tr_aload_n dX12_goesOn_89 hl14 ?_
              refine tr_aload_n dX12_goesOn_90 hl14 ?_
              refine q_getI dX12_goesOn_91 fl12_102 (kR15 hS57.1 ta0) c60 ?_
              refine q_callVi hE (M' := mX12_byteAt) (as := [_]) dX12_goesOn_94 lk12_105 inX12_byteAt seX12_byteAt myX12_byteAt (by decide) ⟨by decide, by decide⟩ rfl (kR15 hS57.1 ta0) (Nat.le_of_ble_eq_true rfl) rfl rfl (by decide) (by decide) (k_X12_byteAt hS57.1 ta0 (by exact om_7caca98d b23)) ?_
              rintro v331 cn' K' N' I327 R328 L329 ⟨rfl, rfl, rfl, rfl, rfl, rfl, p332, r333, -⟩
              obtain rfl : v31 = v331 := r63.trans r333.symm
              rw [((hS57.cell ta0 (by decide +kernel)).trans c25)] at p332
              refine q_callSi hE (M' := mX12_isLetter) (as := [_]) dX12_goesOn_97 lk12_114 inX12_isLetter myX12_isLetter ⟨by decide, by decide⟩ rfl (Nat.le_of_ble_eq_true rfl) rfl rfl (by decide) (by decide) (k_X12_isLetter hS57.1 ) ?_
              rintro v338 cn' K' N' I334 R335 L336 ⟨rfl, rfl, rfl, rfl, rfl, rfl, h339, p340, p341, -⟩
              refine q_if_eq 152 dX12_goesOn_100 (by decide) (fun h342 => ?_) (fun h342 => ?_)
              · skip
                exfalso; exact om_f12f2b25 h81.2 h81.1 p82 p83 h84 p332 p340 p341 h342
              · skip
                refine tr_iload_n dX12_goesOn_103 rfl ?_
                refine q_bipush dX12_goesOn_104 (by decide +kernel) ?_
                intro v343 h344
                refine q_icmp_ge 136 dX12_goesOn_106 (by decide) (fun h345 => ?_) (fun h345 => ?_)
                · skip
                  exfalso; exact om_e534ea8f h72 h344 h345
                · skip
                  refine tr_aload_n dX12_goesOn_109 hl14 ?_
                  refine q_ldc2 dX12_goesOn_110 ld12_93 ?_
                  intro y346
                  refine tr_aload_n dX12_goesOn_113 hl14 ?_
                  refine q_getL dX12_goesOn_114 fl12_118 (kR15 hS57.1 ta0) ?_
                  intro y347
                  refine q_lmul dX12_goesOn_117 ?_
                  intro y348
                  refine tr_aload_n dX12_goesOn_118 hl14 ?_
                  refine tr_aload_n dX12_goesOn_119 hl14 ?_
                  refine q_getI dX12_goesOn_120 fl12_102 (kR15 hS57.1 ta0) c60 ?_
                  refine q_callVi hE (M' := mX12_byteAt) (as := [_]) dX12_goesOn_123 lk12_105 inX12_byteAt seX12_byteAt myX12_byteAt (by decide) ⟨by decide, by decide⟩ rfl (kR15 hS57.1 ta0) (Nat.le_of_ble_eq_true rfl) rfl rfl (by decide) (by decide) (k_X12_byteAt hS57.1 ta0 (by exact om_7caca98d b23)) ?_
                  rintro v353 cn' K' N' I349 R350 L351 ⟨rfl, rfl, rfl, rfl, rfl, rfl, p354, r355, -⟩
                  obtain rfl : v31 = v353 := r63.trans r355.symm
                  rw [((hS57.cell ta0 (by decide +kernel)).trans c25)] at p354
                  refine q_bipush dX12_goesOn_126 (by decide +kernel) ?_
                  intro v356 h357
                  refine q_isubE dX12_goesOn_128 (by intro j1 j2 j3 j4; exact om_44518226 h339.2 h339.1 p340 p341 h342 p354 h357 j1 j2) ?_
                  intro v358 h359
                  refine q_iconst dX12_goesOn_129 (by decide) ?_
                  intro v360 h361
                  refine q_iaddE dX12_goesOn_130 (by intro j1 j2 j3 j4; exact om_b2181a7e h339.2 h339.1 p340 p341 h342 p354 h357 h359 h361 j1 j2) ?_
                  intro v362 h363
                  refine q_i2l dX12_goesOn_131 ?_
                  intro y364
                  refine q_ladd dX12_goesOn_132 ?_
                  intro y365
                  refine q_putL dX12_goesOn_133 fl12_118 (kR15 hS57.1 ta0) (Or.inl rfl) ?_
                  intro L366
                  refine q_iincE dX12_goesOn_136 rfl (by decide) (by decide) (by intro j1 j2; exact om_502d7b61 h72) ?_
                  intro v367 h368
                  refine tr_aload_n dX12_goesOn_139 hl14 ?_
                  refine tr_dup dX12_goesOn_140 rfl ?_
                  refine q_getI dX12_goesOn_141 fl12_102 (kR15 hS57.1 ta0) c60 ?_
                  refine q_iconst dX12_goesOn_144 (by decide) ?_
                  intro v369 h370
                  refine q_iaddE dX12_goesOn_145 (by intro j1 j2 j3 j4; exact om_f1028c16 b23.2 b23.1 h370) ?_
                  intro v371 h372
                  refine q_putI dX12_goesOn_146 fl12_102 (kR15 hS57.1 ta0) (Or.inl rfl) hS57 ta0 (by show (0 : Int) ≤ v371.toInt ∧ v371.toInt ≤ (900 : Int); exact om_06916788 b23.2 b23.1 b26.2 b26.1 h339.2 h339.1 p340 p341 h342 p354 h357 h359 h361 h363 h370 h372) rfl (by decide +kernel) ?_
                  intro I373 hS374 e375 f376
                  have c377 : I373 a0 10 = v18 := (f376 _ _ (fun q => absurd q.2 (by decide))).trans c61
                  have c378 : I373 a0 9 = v45 := (f376 _ _ (fun q => absurd q.2 (by decide))).trans c62
                  have c379 : I373 a0 11 = v54 := (f376 _ _ (fun q => absurd q.2 (by decide))).trans e58
                  have r380 : v31 = m_by I373 R0 a0 v18 := r63.trans (m_by_kp d43 (f376 _ _ (fun q => absurd q.2 (by decide))) (fun i => f376 _ _ (fun q => by have z := ta42; rw [q.1, ta0] at z; exact absurd z (by decide))))
                  refine tr_goto 89 dX12_goesOn_149 (by decide) ?_
                  have lp394 : ∀ (fu : Nat) (ls : Nat → Option Value) (v381 : Int32) (I385 : cz_I) (L386 : cz_L) (v388 : Int32) (v390 : Int32), ls 0 = some (.ref a0) → ls 1 = some (.int v31) → ls 2 = some (.int v381) → St T cn K N d wi_X12_goesOn wr_X12_goesOn I0 R0 I385 R0 → I385 a0 8 = v388 → I385 a0 9 = v390 → v390.toInt = 0 → v388.toInt ≥ v4.toInt + 1 → (-v388.toInt + 900).toNat < fu → Tr X mX12_goesOn 89 ls [] cn K N I385 R0 L386 0 0 := by
                    intro fu
                    induction fu with
                    | zero => intros; rename_i hz; exact absurd hz (Nat.not_lt_zero _)
                    | succ fu ih394 =>
                      intro ls v381 I385 L386 v388 v390 hl382 hl383 hl384 hS387 c389 c391 g392 g393 hm394
                      have b396 := iv15_8 hS387.1 ta0 c389
                      have b397 := iv15_9 hS387.1 ta0 c391
                      refine tr_aload_n dX12_goesOn_89 hl382 ?_
                      refine tr_aload_n dX12_goesOn_90 hl382 ?_
                      refine q_getI dX12_goesOn_91 fl12_102 (kR15 hS387.1 ta0) c389 ?_
                      refine q_callVi hE (M' := mX12_byteAt) (as := [_]) dX12_goesOn_94 lk12_105 inX12_byteAt seX12_byteAt myX12_byteAt (by decide) ⟨by decide, by decide⟩ rfl (kR15 hS387.1 ta0) (Nat.le_of_ble_eq_true rfl) rfl rfl (by decide) (by decide) (k_X12_byteAt hS387.1 ta0 (by exact om_7caca98d b396)) ?_
                      rintro v402 cn' K' N' I398 R399 L400 ⟨rfl, rfl, rfl, rfl, rfl, rfl, p403, r404, -⟩
                      rw [((hS387.cell ta0 (by decide +kernel)).trans c25)] at p403
                      refine q_callSi hE (M' := mX12_isLetter) (as := [_]) dX12_goesOn_97 lk12_114 inX12_isLetter myX12_isLetter ⟨by decide, by decide⟩ rfl (Nat.le_of_ble_eq_true rfl) rfl rfl (by decide) (by decide) (k_X12_isLetter hS387.1 ) ?_
                      rintro v409 cn' K' N' I405 R406 L407 ⟨rfl, rfl, rfl, rfl, rfl, rfl, h410, p411, p412, -⟩
                      refine q_if_eq 152 dX12_goesOn_100 (by decide) (fun h413 => ?_) (fun h413 => ?_)
                      · skip
                        refine tr_iload_n dX12_goesOn_152 hl384 ?_
                        refine q_bipush dX12_goesOn_153 (by decide +kernel) ?_
                        intro v414 h415
                        refine q_icmp_gt 281 dX12_goesOn_155 (by decide) (fun h416 => ?_) (fun h416 => ?_)
                        · skip
                          exact tr_vret hZ dX12_goesOn_281 rfl (by decide) (by decide) ⟨rfl, rfl, rfl, rfl, rfl, hS387, (by (try rw [c2]); (try rw [c391]); (try exact om_77172d95 g392)), (by (try rw [c2]); (try rw [c391]); (try exact om_84cc2102 h12 h13 b23.2 b23.1 b26.2 b26.1 p32 h35 h36 p69 h74 h75 h81.2 h81.1 p82 p83 h84 p332 h339.2 h339.1 p340 p341 h342 p354 h357 h359 h361 h363 h370 h372 g392 b396.2 b396.1 p403 p411 p412 h413)), (by (try rw [c389]); (try rw [c5]); (try rw [((hS387.cell ta0 (by decide +kernel)).trans c8)]); (try rw [c8]); (try exact om_fb364a05 g393)), (by unfold RdI; (try rw [c2]); (try rw [c391]); (try rw [c5]); (try rw [c389]); (try rw [c8]); (try rw [((hS387.cell ta0 (by decide +kernel)).trans c8)]); (try rw [c10]); (try rw [((hS387.cell ta0 (by decide +kernel)).trans c10)]); exact om_c391f4c5 h12 h13 b23.2 b23.1 b26.2 b26.1 p32 h35 h36 p69 h74 h75 h81.2 h81.1 p82 p83 h84 p332 h339.2 h339.1 p340 p341 h342 p354 h357 h359 h361 h363 h370 h372 g392 g393 b396.2 b396.1 p403 p411 p412 h413), trivial⟩
                        · skip
                          refine tr_aload_n dX12_goesOn_158 hl382 ?_
                          refine q_iconst dX12_goesOn_159 (by decide) ?_
                          intro v417 h418
                          refine q_putI dX12_goesOn_160 fl12_99 (kR15 hS387.1 ta0) (Or.inl rfl) hS387 ta0 (by show (0 : Int) ≤ v417.toInt ∧ v417.toInt ≤ (5 : Int); exact om_3fee6963 h418) rfl (by decide +kernel) ?_
                          intro I419 hS420 e421 f422
                          have c423 : I419 a0 8 = v388 := (f422 _ _ (fun q => absurd q.2 (by decide))).trans c389
                          have r424 : v402 = m_by I419 R0 a0 v388 := r404.trans (m_by_kp d43 (f422 _ _ (fun q => absurd q.2 (by decide))) (fun i => f422 _ _ (fun q => by have z := ta42; rw [q.1, ta0] at z; exact absurd z (by decide))))
                          refine tr_goto 281 dX12_goesOn_163 (by decide) ?_
                          exact tr_vret hZ dX12_goesOn_281 rfl (by decide) (by decide) ⟨rfl, rfl, rfl, rfl, rfl, hS420, (by (try rw [c2]); (try rw [e421]); (try exact om_705d52f4 h418)), (by (try rw [c2]); (try rw [e421]); (try exact om_7a01b3f2 h12 h13 b23.2 b23.1 b26.2 b26.1 p32 h35 h36 p69 h74 h75 h81.2 h81.1 p82 p83 h84 p332 h339.2 h339.1 p340 p341 h342 p354 h357 h359 h361 h363 h370 h372 b396.2 b396.1 p403 p411 p412 h413 h418)), (by (try rw [c423]); (try rw [c5]); (try rw [((hS420.cell ta0 (by decide +kernel)).trans c8)]); (try rw [c8]); (try exact om_fb364a05 g393)), (by unfold RdI; (try rw [c2]); (try rw [e421]); (try rw [c5]); (try rw [c423]); (try rw [c8]); (try rw [((hS420.cell ta0 (by decide +kernel)).trans c8)]); (try rw [c10]); (try rw [((hS420.cell ta0 (by decide +kernel)).trans c10)]); exact om_5241a779 h12 h13 b23.2 b23.1 b26.2 b26.1 p32 h35 h36 p69 h74 h75 h81.2 h81.1 p82 p83 h84 p332 h339.2 h339.1 p340 p341 h342 p354 h357 h359 h361 h363 h370 h372 g393 b396.2 b396.1 p403 p411 p412 h413 h418), trivial⟩
                      · skip
                        refine tr_iload_n dX12_goesOn_103 hl384 ?_
                        refine q_bipush dX12_goesOn_104 (by decide +kernel) ?_
                        intro v425 h426
                        refine q_icmp_ge 136 dX12_goesOn_106 (by decide) (fun h427 => ?_) (fun h427 => ?_)
                        · skip
                          refine q_iinc dX12_goesOn_136 hl384 (by decide) ?_
                          intro v428
                          refine tr_aload_n dX12_goesOn_139 hl382 ?_
                          refine tr_dup dX12_goesOn_140 rfl ?_
                          refine q_getI dX12_goesOn_141 fl12_102 (kR15 hS387.1 ta0) c389 ?_
                          refine q_iconst dX12_goesOn_144 (by decide) ?_
                          intro v429 h430
                          refine q_iaddE dX12_goesOn_145 (by intro j1 j2 j3 j4; exact om_67ae0bfe b6.2 b6.1 g393 b396.2 b396.1 h430) ?_
                          intro v431 h432
                          refine q_putI dX12_goesOn_146 fl12_102 (kR15 hS387.1 ta0) (Or.inl rfl) hS387 ta0 (by show (0 : Int) ≤ v431.toInt ∧ v431.toInt ≤ (900 : Int); exact om_6b792385 b26.2 b26.1 b396.2 b396.1 p403 h410.2 h410.1 p411 p412 h413 h430 h432) rfl (by decide +kernel) ?_
                          intro I433 hS434 e435 f436
                          have c437 : I433 a0 9 = v390 := (f436 _ _ (fun q => absurd q.2 (by decide))).trans c391
                          have r438 : v402 = m_by I433 R0 a0 v388 := r404.trans (m_by_kp d43 (f436 _ _ (fun q => absurd q.2 (by decide))) (fun i => f436 _ _ (fun q => by have z := ta42; rw [q.1, ta0] at z; exact absurd z (by decide))))
                          refine tr_goto 89 dX12_goesOn_149 (by decide) ?_
                          exact ih394 _ v428 I433 L386 v431 v390 hl382 hl383 rfl hS434 e435 c437 (by exact om_29f55913 g392) (by exact om_08d1743c g393 h430 h432) (by exact om_3265bdb5 b26.2 b26.1 hm394 b396.2 b396.1 p403 h410.2 h410.1 p411 p412 h413 h430 h432)
                        · skip
                          refine tr_aload_n dX12_goesOn_109 hl382 ?_
                          refine q_ldc2 dX12_goesOn_110 ld12_93 ?_
                          intro y439
                          refine tr_aload_n dX12_goesOn_113 hl382 ?_
                          refine q_getL dX12_goesOn_114 fl12_118 (kR15 hS387.1 ta0) ?_
                          intro y440
                          refine q_lmul dX12_goesOn_117 ?_
                          intro y441
                          refine tr_aload_n dX12_goesOn_118 hl382 ?_
                          refine tr_aload_n dX12_goesOn_119 hl382 ?_
                          refine q_getI dX12_goesOn_120 fl12_102 (kR15 hS387.1 ta0) c389 ?_
                          refine q_callVi hE (M' := mX12_byteAt) (as := [_]) dX12_goesOn_123 lk12_105 inX12_byteAt seX12_byteAt myX12_byteAt (by decide) ⟨by decide, by decide⟩ rfl (kR15 hS387.1 ta0) (Nat.le_of_ble_eq_true rfl) rfl rfl (by decide) (by decide) (k_X12_byteAt hS387.1 ta0 (by exact om_7caca98d b396)) ?_
                          rintro v446 cn' K' N' I442 R443 L444 ⟨rfl, rfl, rfl, rfl, rfl, rfl, p447, r448, -⟩
                          obtain rfl : v402 = v446 := r404.trans r448.symm
                          rw [((hS387.cell ta0 (by decide +kernel)).trans c25)] at p447
                          refine q_bipush dX12_goesOn_126 (by decide +kernel) ?_
                          intro v449 h450
                          refine q_isubE dX12_goesOn_128 (by intro j1 j2 j3 j4; exact om_44518226 h410.2 h410.1 p411 p412 h413 p447 h450 j1 j2) ?_
                          intro v451 h452
                          refine q_iconst dX12_goesOn_129 (by decide) ?_
                          intro v453 h454
                          refine q_iaddE dX12_goesOn_130 (by intro j1 j2 j3 j4; exact om_b2181a7e h410.2 h410.1 p411 p412 h413 p447 h450 h452 h454 j1 j2) ?_
                          intro v455 h456
                          refine q_i2l dX12_goesOn_131 ?_
                          intro y457
                          refine q_ladd dX12_goesOn_132 ?_
                          intro y458
                          refine q_putL dX12_goesOn_133 fl12_118 (kR15 hS387.1 ta0) (Or.inl rfl) ?_
                          intro L459
                          refine q_iincE dX12_goesOn_136 hl384 (by decide) (by decide) (by intro j1 j2; exact om_15b95de7 h426 h427 j1) ?_
                          intro v460 h461
                          refine tr_aload_n dX12_goesOn_139 hl382 ?_
                          refine tr_dup dX12_goesOn_140 rfl ?_
                          refine q_getI dX12_goesOn_141 fl12_102 (kR15 hS387.1 ta0) c389 ?_
                          refine q_iconst dX12_goesOn_144 (by decide) ?_
                          intro v462 h463
                          refine q_iaddE dX12_goesOn_145 (by intro j1 j2 j3 j4; exact om_67ae0bfe b6.2 b6.1 g393 b396.2 b396.1 h463) ?_
                          intro v464 h465
                          refine q_putI dX12_goesOn_146 fl12_102 (kR15 hS387.1 ta0) (Or.inl rfl) hS387 ta0 (by show (0 : Int) ≤ v464.toInt ∧ v464.toInt ≤ (900 : Int); exact om_72dfcfe3 b26.2 b26.1 b396.2 b396.1 h410.2 h410.1 p411 p412 h413 p447 h450 h452 h454 h456 h463 h465) rfl (by decide +kernel) ?_
                          intro I466 hS467 e468 f469
                          have c470 : I466 a0 9 = v390 := (f469 _ _ (fun q => absurd q.2 (by decide))).trans c391
                          have r471 : v402 = m_by I466 R0 a0 v388 := r404.trans (m_by_kp d43 (f469 _ _ (fun q => absurd q.2 (by decide))) (fun i => f469 _ _ (fun q => by have z := ta42; rw [q.1, ta0] at z; exact absurd z (by decide))))
                          refine tr_goto 89 dX12_goesOn_149 (by decide) ?_
                          exact ih394 _ v460 I466 L459 v464 v390 hl382 hl383 rfl hS467 e468 c470 (by exact om_29f55913 g392) (by exact om_08d1743c g393 h463 h465) (by exact om_6b3512d1 b26.2 b26.1 hm394 b396.2 b396.1 p403 h410.2 h410.1 p411 p412 h413 p447 h450 h452 h454 h456 h463 h465)
                  exact lp394 _ _ v367 I373 L366 v371 v45 hl14 rfl rfl hS374 e375 c378 (by exact om_29f55913 h46) (by exact om_dda1c80b g20 h370 h372) (Nat.lt_succ_self _)
          · skip
            refine tr_aload_n dX12_goesOn_69 hl14 ?_
            refine q_iconst dX12_goesOn_70 (by decide) ?_
            intro v472 h473
            refine q_putI dX12_goesOn_71 fl12_99 (kR15 hS57.1 ta0) (Or.inl rfl) hS57 ta0 (by show (0 : Int) ≤ v472.toInt ∧ v472.toInt ≤ (5 : Int); exact om_5c756936 h473) rfl (by decide +kernel) ?_
            intro I474 hS475 e476 f477
            have c478 : I474 a0 8 = v18 := (f477 _ _ (fun q => absurd q.2 (by decide))).trans c60
            have c479 : I474 a0 10 = v18 := (f477 _ _ (fun q => absurd q.2 (by decide))).trans c61
            have c480 : I474 a0 11 = v54 := (f477 _ _ (fun q => absurd q.2 (by decide))).trans e58
            have r481 : v31 = m_by I474 R0 a0 v18 := r63.trans (m_by_kp d43 (f477 _ _ (fun q => absurd q.2 (by decide))) (fun i => f477 _ _ (fun q => by have z := ta42; rw [q.1, ta0] at z; exact absurd z (by decide))))
            refine tr_goto 281 dX12_goesOn_74 (by decide) ?_
            exact tr_vret hZ dX12_goesOn_281 rfl (by decide) (by decide) ⟨rfl, rfl, rfl, rfl, rfl, hS475, (by (try rw [c2]); (try rw [e476]); (try exact om_5534bd29 h473)), (by (try rw [c2]); (try rw [e476]); (try exact om_074b63af h12 h13 b23.2 b23.1 b26.2 b26.1 p32 h35 h36 p69 h74 h75 h473)), (by (try rw [c478]); (try rw [c5]); (try rw [((hS475.cell ta0 (by decide +kernel)).trans c8)]); (try rw [c8]); (try exact om_c6e191ba g20)), (by unfold RdI; (try rw [c2]); (try rw [e476]); (try rw [c5]); (try rw [c478]); (try rw [c8]); (try rw [((hS475.cell ta0 (by decide +kernel)).trans c8)]); (try rw [c10]); (try rw [((hS475.cell ta0 (by decide +kernel)).trans c10)]); exact om_d3df6493 h12 h13 g20 b23.2 b23.1 b26.2 b26.1 p32 h35 h36 p69 h74 h75 h473), trivial⟩
        · skip
          refine tr_aload_n dX12_goesOn_22 hl14 ?_
          refine tr_dup dX12_goesOn_23 rfl ?_
          refine q_getI dX12_goesOn_24 fl12_102 (kR15 hS17.1 ta0) c19 ?_
          refine q_iconst dX12_goesOn_27 (by decide) ?_
          intro v482 h483
          refine q_iaddE dX12_goesOn_28 (by intro j1 j2 j3 j4; exact om_f1028c16 b23.2 b23.1 h483) ?_
          intro v484 h485
          refine q_putI dX12_goesOn_29 fl12_102 (kR15 hS17.1 ta0) (Or.inl rfl) hS17 ta0 (by show (0 : Int) ≤ v484.toInt ∧ v484.toInt ≤ (900 : Int); exact om_d1993b3f b23.2 b23.1 b26.2 b26.1 p32 h35 h36 h483 h485) rfl (by decide +kernel) ?_
          intro I486 hS487 e488 f489
          obtain ⟨a490, d491, ta490⟩ := rf15_5 hW0 ta0
          have r492 : v31 = m_by I486 R0 a0 v18 := r33.trans (m_by_kp d491 (f489 _ _ (fun q => absurd q.2 (by decide))) (fun i => f489 _ _ (fun q => by have z := ta490; rw [q.1, ta0] at z; exact absurd z (by decide))))
          refine tr_goto 9 dX12_goesOn_32 (by decide) ?_
          exact ih21 _ I486 L16 v484 hl14 hS487 e488 (by exact om_fbe8e344 g20 h483 h485) (by exact om_35d78fb7 hm21 b23.2 b23.1 b26.2 b26.1 p32 h35 h36 h483 h485)
    exact lp21 _ _ I0 L0 v4 rfl hS0 c5 (by exact om_4a4c3493) (Nat.lt_succ_self _)
  · skip
    exact tr_vret hZ dX12_goesOn_8 rfl (by decide) (by decide) ⟨rfl, rfl, rfl, rfl, rfl, hS0, (by (try rw [c2]); (try exact om_9837fa91 h12 h13)), (by (try rw [c2]); (try exact om_3a4ac216 h12 h13)), (by (try rw [c5]); (try rw [c8]); (try exact om_16b4049a)), (by unfold RdI; (try rw [c2]); (try rw [c5]); (try rw [c8]); (try rw [c10]); exact om_42d16d85 h12 h13), trivial⟩
def wi_X12_begins : List Nat := [968, 969, 970, 971, 972, 973, 974]
def wr_X12_begins : List Nat := []
set_option maxHeartbeats 4000000 in
theorem k_X12_begins {l : Launch} {T : Nat → Nat} {cn : Nat} {K N : Nat → Nat} {I0 : cz_I} {R0 : cz_R} {L0 : cz_L} {d : Int} (hW0 : Wf T cn K N I0 R0 d) {a0 : Nat} (ta0 : T a0 = 15) {x1 : Int32} {x2 : Int32} (nn4 : ∃ b, R0 a0 4 = some b) : ConE l mX12_begins [.ref a0, .int x1, .int x2] cn K N I0 R0 L0 (ca_v (fun cn' K' N' I' R' L' => cn = cn' ∧ K = K' ∧ N = N' ∧ R0 = R' ∧ St T cn K N d wi_X12_begins wr_X12_begins I0 R0 I' R0 ∧ (((I' a0 9).toInt ≠ 5 → x1.toInt ≠ x2.toInt)) ∧ RdI a0 I0 I' ∧ True)) := by
  refine ConE.of (by decide +kernel) rfl (Nat.le_of_ble_eq_true rfl) rfl (fun X hX hZ hE => ?_)
  subst hX
  have hS0 : St T cn K N d wi_X12_begins wr_X12_begins I0 R0 I0 R0 := St.rf0 hW0
  obtain ⟨a1, d2⟩ := nn4
  have ta1 : T a1 = 14 := hW0.rsN ta0 rfl d2
  refine tr_iload_n dX12_begins_0 rfl ?_
  refine tr_iload_n dX12_begins_1 rfl ?_
  refine q_icmp_ne 10 dX12_begins_2 (by decide) (fun h3 => ?_) (fun h3 => ?_)
  · skip
    refine tr_aload_n dX12_begins_10 rfl ?_
    refine tr_getR dX12_begins_11 fl12_188 (kR15 hS0.1 ta0) d2 ?_
    obtain ⟨v4, c5⟩ : ∃ v, I0 a1 0 = v := ⟨_, rfl⟩
    have b6 := iv14_0 hW0 ta1 c5
    refine q_getI dX12_begins_14 fl12_192 (kR14 hS0.1 ta1) c5 ?_
    refine q_if_ne 26 dX12_begins_17 (by decide) (fun h7 => ?_) (fun h7 => ?_)
    · skip
      refine tr_aload_n dX12_begins_26 rfl ?_
      obtain ⟨v8, c9⟩ : ∃ v, I0 a0 9 = v := ⟨_, rfl⟩
      have b10 := iv15_9 hS0.1 ta0 c9
      obtain ⟨v11, c12⟩ : ∃ v, I0 a0 8 = v := ⟨_, rfl⟩
      have b13 := iv15_8 hS0.1 ta0 c12
      obtain ⟨v14, c15⟩ : ∃ v, I0 a0 13 = v := ⟨_, rfl⟩
      refine q_callVv hE (M' := mX12_goesOn) (as := []) dX12_begins_27 lk12_142 inX12_goesOn seX12_goesOn myX12_goesOn (by decide) ⟨by decide, by decide⟩ rfl (kR15 hS0.1 ta0) (Nat.le_of_ble_eq_true rfl) rfl rfl (by decide) (by decide) (k_X12_goesOn hS0.1 ta0) ?_
      rintro cn' K' N' I16 R17 L18 ⟨rfl, rfl, rfl, rfl, g19, p21, p22, p23, w24, -⟩
      have hS25 := hS0.tr g19 (by decide +kernel) (by decide +kernel)
      have c26 : I16 a0 13 = v14 := (g19.cell ta0 (by decide +kernel)).trans c15
      have w27 : RdI a0 I0 I16 := (EwI.rf a0 I0).rd w24
      obtain ⟨v28, c29⟩ : ∃ v, I16 a0 9 = v := ⟨_, rfl⟩
      have b30 := iv15_9 hS25.1 ta0 c29
      rw [c9] at p21
      rw [c29] at p21
      rw [c9] at p22
      rw [c29] at p22
      obtain ⟨v31, c32⟩ : ∃ v, I16 a0 8 = v := ⟨_, rfl⟩
      have b33 := iv15_8 hS25.1 ta0 c32
      rw [c32] at p23
      rw [c12] at p23
      rw [c26] at p23
      rw [c15] at p23
      exact tr_vret hZ dX12_begins_30 rfl (by decide) (by decide) ⟨rfl, rfl, rfl, rfl, rfl, hS25, (by (try rw [c29]); (try exact om_88b51f63 h3 b6.2 b6.1 h7 b10.2 b10.1 p22 p21 b30.2 b30.1)), w27, trivial⟩
    · skip
      refine tr_aload_n dX12_begins_20 rfl ?_
      refine q_bipush dX12_begins_21 (by decide +kernel) ?_
      intro v34 h35
      obtain ⟨v36, c37⟩ : ∃ v, I0 a0 8 = v := ⟨_, rfl⟩
      have b38 := iv15_8 hS0.1 ta0 c37
      refine q_callVv hE (M' := mX12_flaw) (as := [_]) dX12_begins_23 lk12_145 inX12_flaw seX12_flaw myX12_flaw (by decide) ⟨by decide, by decide⟩ rfl (kR15 hS0.1 ta0) (Nat.le_of_ble_eq_true rfl) rfl rfl (by decide) (by decide) (k_X12_flaw hS0.1 ta0 (by exact om_54a92a42 h35)) ?_
      rintro cn' K' N' I39 R40 L41 ⟨rfl, rfl, rfl, rfl, rfl, g42, p44, p45, w46, -⟩
      have hS47 := hS0.tr g42 (by decide +kernel) (by decide +kernel)
      have c48 : I39 a0 8 = v36 := (g42.cell ta0 (by decide +kernel)).trans c37
      have w49 : RdI a0 I0 I39 := (EwI.rf a0 I0).rd w46
      obtain ⟨v50, c51⟩ : ∃ v, I39 a0 9 = v := ⟨_, rfl⟩
      have b52 := iv15_9 hS47.1 ta0 c51
      rw [c51] at p44
      rw [c48] at p45
      rw [c37] at p45
      refine tr_aload_n dX12_begins_26 rfl ?_
      obtain ⟨v53, c54⟩ : ∃ v, I39 a0 13 = v := ⟨_, rfl⟩
      refine q_callVv hE (M' := mX12_goesOn) (as := []) dX12_begins_27 lk12_142 inX12_goesOn seX12_goesOn myX12_goesOn (by decide) ⟨by decide, by decide⟩ rfl (kR15 hS47.1 ta0) (Nat.le_of_ble_eq_true rfl) rfl rfl (by decide) (by decide) (k_X12_goesOn hS47.1 ta0) ?_
      rintro cn' K' N' I55 R56 L57 ⟨rfl, rfl, rfl, rfl, g58, p60, p61, p62, w63, -⟩
      have hS64 := hS47.tr g58 (by decide +kernel) (by decide +kernel)
      have c65 : I55 a0 13 = v53 := (g58.cell ta0 (by decide +kernel)).trans c54
      have w66 : RdI a0 I0 I55 := w49.rd w63
      obtain ⟨v67, c68⟩ : ∃ v, I55 a0 9 = v := ⟨_, rfl⟩
      have b69 := iv15_9 hS64.1 ta0 c68
      rw [c51] at p60
      rw [c68] at p60
      rw [c51] at p61
      rw [c68] at p61
      obtain ⟨v70, c71⟩ : ∃ v, I55 a0 8 = v := ⟨_, rfl⟩
      have b72 := iv15_8 hS64.1 ta0 c71
      rw [c71] at p62
      rw [c48] at p62
      rw [c65] at p62
      rw [c54] at p62
      exact tr_vret hZ dX12_begins_30 rfl (by decide) (by decide) ⟨rfl, rfl, rfl, rfl, rfl, hS64, (by (try rw [c68]); (try exact om_069ac622 p44 p61 p60 b69.2 b69.1)), w66, trivial⟩
  · skip
    refine tr_aload_n dX12_begins_5 rfl ?_
    refine q_iconst dX12_begins_6 (by decide) ?_
    intro v73 h74
    obtain ⟨v75, c76⟩ : ∃ v, I0 a0 8 = v := ⟨_, rfl⟩
    have b77 := iv15_8 hS0.1 ta0 c76
    refine q_callVv hE (M' := mX12_flaw) (as := [_]) dX12_begins_7 lk12_145 inX12_flaw seX12_flaw myX12_flaw (by decide) ⟨by decide, by decide⟩ rfl (kR15 hS0.1 ta0) (Nat.le_of_ble_eq_true rfl) rfl rfl (by decide) (by decide) (k_X12_flaw hS0.1 ta0 (by exact om_054a361c h74)) ?_
    rintro cn' K' N' I78 R79 L80 ⟨rfl, rfl, rfl, rfl, rfl, g81, p83, p84, w85, -⟩
    have hS86 := hS0.tr g81 (by decide +kernel) (by decide +kernel)
    have c87 : I78 a0 8 = v75 := (g81.cell ta0 (by decide +kernel)).trans c76
    have w88 : RdI a0 I0 I78 := (EwI.rf a0 I0).rd w85
    obtain ⟨v89, c90⟩ : ∃ v, I78 a0 9 = v := ⟨_, rfl⟩
    have b91 := iv15_9 hS86.1 ta0 c90
    rw [c90] at p83
    rw [c87] at p84
    rw [c76] at p84
    refine tr_aload_n dX12_begins_10 rfl ?_
    refine tr_getR dX12_begins_11 fl12_188 (kR15 hS86.1 ta0) d2 ?_
    obtain ⟨v92, c93⟩ : ∃ v, I0 a1 0 = v := ⟨_, rfl⟩
    have b94 := iv14_0 hW0 ta1 c93
    refine q_getI dX12_begins_14 fl12_192 (kR14 hS86.1 ta1) ((hS86.cell ta1 (by decide +kernel)).trans c93) ?_
    refine q_if_ne 26 dX12_begins_17 (by decide) (fun h95 => ?_) (fun h95 => ?_)
    · skip
      refine tr_aload_n dX12_begins_26 rfl ?_
      obtain ⟨v96, c97⟩ : ∃ v, I78 a0 13 = v := ⟨_, rfl⟩
      refine q_callVv hE (M' := mX12_goesOn) (as := []) dX12_begins_27 lk12_142 inX12_goesOn seX12_goesOn myX12_goesOn (by decide) ⟨by decide, by decide⟩ rfl (kR15 hS86.1 ta0) (Nat.le_of_ble_eq_true rfl) rfl rfl (by decide) (by decide) (k_X12_goesOn hS86.1 ta0) ?_
      rintro cn' K' N' I98 R99 L100 ⟨rfl, rfl, rfl, rfl, g101, p103, p104, p105, w106, -⟩
      have hS107 := hS86.tr g101 (by decide +kernel) (by decide +kernel)
      have c108 : I98 a0 13 = v96 := (g101.cell ta0 (by decide +kernel)).trans c97
      have w109 : RdI a0 I0 I98 := w88.rd w106
      obtain ⟨v110, c111⟩ : ∃ v, I98 a0 9 = v := ⟨_, rfl⟩
      have b112 := iv15_9 hS107.1 ta0 c111
      rw [c90] at p103
      rw [c111] at p103
      rw [c90] at p104
      rw [c111] at p104
      obtain ⟨v113, c114⟩ : ∃ v, I98 a0 8 = v := ⟨_, rfl⟩
      have b115 := iv15_8 hS107.1 ta0 c114
      rw [c114] at p105
      rw [c87] at p105
      rw [c108] at p105
      rw [c97] at p105
      exact tr_vret hZ dX12_begins_30 rfl (by decide) (by decide) ⟨rfl, rfl, rfl, rfl, rfl, hS107, (by (try rw [c111]); (try exact om_069ac622 p83 p104 p103 b112.2 b112.1)), w109, trivial⟩
    · skip
      refine tr_aload_n dX12_begins_20 rfl ?_
      refine q_bipush dX12_begins_21 (by decide +kernel) ?_
      intro v116 h117
      refine q_callVv hE (M' := mX12_flaw) (as := [_]) dX12_begins_23 lk12_145 inX12_flaw seX12_flaw myX12_flaw (by decide) ⟨by decide, by decide⟩ rfl (kR15 hS86.1 ta0) (Nat.le_of_ble_eq_true rfl) rfl rfl (by decide) (by decide) (k_X12_flaw hS86.1 ta0 (by exact om_54a92a42 h117)) ?_
      rintro cn' K' N' I118 R119 L120 ⟨rfl, rfl, rfl, rfl, rfl, g121, p123, p124, w125, -⟩
      have hS126 := hS86.tr g121 (by decide +kernel) (by decide +kernel)
      have c127 : I118 a0 8 = v75 := (g121.cell ta0 (by decide +kernel)).trans c87
      have w128 : RdI a0 I0 I118 := w88.rd w125
      obtain ⟨v129, c130⟩ : ∃ v, I118 a0 9 = v := ⟨_, rfl⟩
      have b131 := iv15_9 hS126.1 ta0 c130
      rw [c130] at p123
      rw [c127] at p124
      rw [c87] at p124
      refine tr_aload_n dX12_begins_26 rfl ?_
      obtain ⟨v132, c133⟩ : ∃ v, I118 a0 13 = v := ⟨_, rfl⟩
      refine q_callVv hE (M' := mX12_goesOn) (as := []) dX12_begins_27 lk12_142 inX12_goesOn seX12_goesOn myX12_goesOn (by decide) ⟨by decide, by decide⟩ rfl (kR15 hS126.1 ta0) (Nat.le_of_ble_eq_true rfl) rfl rfl (by decide) (by decide) (k_X12_goesOn hS126.1 ta0) ?_
      rintro cn' K' N' I134 R135 L136 ⟨rfl, rfl, rfl, rfl, g137, p139, p140, p141, w142, -⟩
      have hS143 := hS126.tr g137 (by decide +kernel) (by decide +kernel)
      have c144 : I134 a0 13 = v132 := (g137.cell ta0 (by decide +kernel)).trans c133
      have w145 : RdI a0 I0 I134 := w128.rd w142
      obtain ⟨v146, c147⟩ : ∃ v, I134 a0 9 = v := ⟨_, rfl⟩
      have b148 := iv15_9 hS143.1 ta0 c147
      rw [c130] at p139
      rw [c147] at p139
      rw [c130] at p140
      rw [c147] at p140
      obtain ⟨v149, c150⟩ : ∃ v, I134 a0 8 = v := ⟨_, rfl⟩
      have b151 := iv15_8 hS143.1 ta0 c150
      rw [c150] at p141
      rw [c127] at p141
      rw [c144] at p141
      rw [c133] at p141
      exact tr_vret hZ dX12_begins_30 rfl (by decide) (by decide) ⟨rfl, rfl, rfl, rfl, rfl, hS143, (by (try rw [c147]); (try exact om_069ac622 p123 p140 p139 b148.2 b148.1)), w145, trivial⟩
