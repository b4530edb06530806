set_option maxHeartbeats 4000000 in
theorem fk_X12_isAwake {l : Launch} {T : Nat → Nat} {cn : Nat} {K N : Nat → Nat} {I0 : cz_I} {R0 : cz_R} {L0 : cz_L} {d : Int} (hW0 : Wf T cn K N I0 R0 d) (gZ : cz_N) {a0 : Nat} (ta0 : T a0 = 15) {x1 : Int32} (hx1 : 0 ≤ x1.toInt ∧ x1.toInt ≤ 4) {x2 : Int32} (hx2 : 0 ≤ x2.toInt ∧ x2.toInt ≤ 239) {x3 : Int32} (hx3 : 0 ≤ x3.toInt ∧ x3.toInt ≤ 63) (hP : NmP I0 R0 a0 gZ) (hG : GdN gZ) (pre0 : x1.toInt < (nzc gZ 4)) (pre1 : x2.toInt < (nzc gZ 0)) (pre2 : x3.toInt = (nzM gZ)) (nn3 : ∃ b, R0 a0 3 = some b) : ConE l mX12_isAwake [.ref a0, .int x1, .int x2, .int x3] cn K N I0 R0 L0 (ca_i (fun v cn' K' N' I' R' L' => cn = cn' ∧ K = K' ∧ N = N' ∧ I0 = I' ∧ R0 = R' ∧ L0 = L' ∧ (0 ≤ v.toInt ∧ v.toInt ≤ 1) ∧ (v.toInt = awZ gZ x1.toInt.toNat x2.toInt) ∧ True)) := by
  refine ConE.of (by decide +kernel) rfl (Nat.le_of_ble_eq_true rfl) rfl (fun X hX hZ hE => ?_)
  subst hX
  obtain ⟨a1, d2⟩ := nn3
  have ta1 : T a1 = 14 := hW0.rsN ta0 rfl d2
  have p3 := pre0
  have p4 := pre1
  have p5 := pre2
  obtain ⟨v6, c7⟩ : ∃ v, I0 a1 5 = v := ⟨_, rfl⟩
  have b8 := iv14_5 hW0 ta1 c7
  obtain ⟨a9, d10, ta9⟩ := rf14_10 hW0 ta1
  obtain ⟨a11, d12, ta11⟩ := rf14_11 hW0 ta1
  obtain ⟨a13, d14, ta13⟩ := rf14_12 hW0 ta1
  obtain ⟨a15, d16, ta15⟩ := rf14_13 hW0 ta1
  obtain ⟨a17, d18, ta17⟩ := rf14_14 hW0 ta1
  obtain ⟨a19, d20, ta19⟩ := rf14_15 hW0 ta1
  obtain ⟨a21, d22, ta21⟩ := rf14_16 hW0 ta1
  obtain ⟨a23, d24, ta23⟩ := rf14_17 hW0 ta1
  obtain ⟨a25, d26, ta25⟩ := rf14_18 hW0 ta1
  obtain ⟨a27, d28, ta27⟩ := rf14_19 hW0 ta1
  obtain ⟨a29, d30, ta29⟩ := rf14_20 hW0 ta1
  obtain ⟨a31, d32, ta31⟩ := rf14_21 hW0 ta1
  obtain ⟨a33, d34, ta33⟩ := rf14_22 hW0 ta1
  obtain ⟨a35, d36, ta35⟩ := rf14_23 hW0 ta1
  obtain ⟨a37, d38, ta37⟩ := rf14_24 hW0 ta1
  obtain ⟨a39, d40, ta39⟩ := rf14_25 hW0 ta1
  obtain ⟨a41, d42, ta41⟩ := rf14_26 hW0 ta1
  obtain ⟨a43, d44, ta43⟩ := rf14_27 hW0 ta1
  obtain ⟨a45, d46, ta45⟩ := rf14_28 hW0 ta1
  obtain ⟨a47, d48, ta47⟩ := rf14_29 hW0 ta1
  obtain ⟨a49, d50, ta49⟩ := rf15_21 hW0 ta0
  obtain ⟨a51, d52, ta51⟩ := rf15_22 hW0 ta0
  obtain ⟨a53, d54, ta53⟩ := rf15_23 hW0 ta0
  obtain ⟨a55, d56, ta55⟩ := rf15_24 hW0 ta0
  obtain ⟨a57, d58, ta57⟩ := rf15_25 hW0 ta0
  obtain ⟨a59, d60, ta59⟩ := rf15_26 hW0 ta0
  obtain ⟨v61, c62⟩ : ∃ v, I0 a1 0 = v := ⟨_, rfl⟩
  have b63 := hW0.2.2.2.2.2.1 a0 ta0 _ d2
  rw [c62] at b63
  have b64 := iv14_0 hW0 ta1 c62
  obtain ⟨v65, c66⟩ : ∃ v, I0 a1 1 = v := ⟨_, rfl⟩
  have b67 := iv14_1 hW0 ta1 c66
  obtain ⟨v68, c69⟩ : ∃ v, I0 a1 3 = v := ⟨_, rfl⟩
  have b70 := iv14_3 hW0 ta1 c69
  obtain ⟨v71, c72⟩ : ∃ v, I0 a1 4 = v := ⟨_, rfl⟩
  have b73 := iv14_4 hW0 ta1 c72
  obtain ⟨v74, c75⟩ : ∃ v, I0 a1 8 = v := ⟨_, rfl⟩
  have b76 := iv14_8 hW0 ta1 c75
  have hA77 := hP.1 _ d2
  have hc78_0 := hA77.1 0 (by omega)
  rw [c62] at hc78_0
  have hc78_1 := hA77.1 1 (by omega)
  rw [c66] at hc78_1
  have hc78_3 := hA77.1 3 (by omega)
  rw [c69] at hc78_3
  have hc78_4 := hA77.1 4 (by omega)
  rw [c72] at hc78_4
  have hc78_5 := hA77.1 5 (by omega)
  rw [c7] at hc78_5
  have hc78_8 := hA77.2.1
  rw [c75] at hc78_8
  have hc78g := hG.cs
  have hc78a := hG.ac
  refine tr_iload_n dX12_isAwake_0 rfl ?_
  refine tr_aload_n dX12_isAwake_1 rfl ?_
  refine tr_getR dX12_isAwake_2 fl12_385 (kR15 hW0 ta0) d2 ?_
  refine tr_getR dX12_isAwake_5 fl12_336 (kR14 hW0 ta1) d32 ?_
  refine tr_iload_n dX12_isAwake_8 rfl ?_
  refine q_iald dX12_isAwake_9 (kR64 hW0 ta31) (ti_in (nR64 hW0 ta31) (by omega) (by omega)) ?_
  intro v79 c80
  have ho81 : v79.toInt = nzT gZ (14 + x1.toInt.toNat) 1 := by rw [← show I0 a31 x1.toInt.toNat = v79 from c80]; exact hA77.2.tuN d32 (by omega) (by omega) (by omega)
  have ho81g := hG.tu (t := x1.toInt.toNat) (by omega)
  refine tr_aload_n dX12_isAwake_10 rfl ?_
  refine tr_getR dX12_isAwake_11 fl12_385 (kR15 hW0 ta0) d2 ?_
  refine tr_getR dX12_isAwake_14 fl12_339 (kR14 hW0 ta1) d34 ?_
  refine tr_iload_n dX12_isAwake_17 rfl ?_
  refine q_iald dX12_isAwake_18 (kR65 hW0 ta33) (ti_in (nR65 hW0 ta33) (by omega) (by omega)) ?_
  intro v82 c83
  have ho84 : v82.toInt = nzT gZ (14 + x1.toInt.toNat) 2 := by rw [← show I0 a33 x1.toInt.toNat = v82 from c83]; exact hA77.2.tuN d34 (by omega) (by omega) (by omega)
  refine q_iconst dX12_isAwake_19 (by decide) ?_
  intro v85 h86
  refine q_isubE dX12_isAwake_20 (by intros; omega) ?_
  intro v87 h88
  refine q_callSi hE (M' := mX12_in) (as := [_, _, _]) dX12_isAwake_21 lk12_149 inX12_in myX12_in ⟨by decide, by decide⟩ rfl (Nat.le_of_ble_eq_true rfl) rfl rfl (by decide) (by decide) (fk_X12_in hW0  ) ?_
  rintro v94 cn' K' N' I89 R90 L91 ⟨rfl, rfl, rfl, rfl, rfl, rfl, h95, dj96, -⟩
  rcases dj96 with ⟨p97, p98, p99, -⟩ | ⟨p100, p101, -⟩
  · skip
    refine q_if_eq 29 dX12_isAwake_24 (by decide) (fun h102 => ?_) (fun h102 => ?_)
    · skip
      exfalso; omega
    · skip
      refine q_iconst dX12_isAwake_27 (by decide) ?_
      intro v103 h104
      exact tr_zret hZ dX12_isAwake_28 rfl (ti_b01 (by omega) (by omega)) (by decide) (by decide) ⟨v103, rfl, rfl, rfl, rfl, rfl, rfl, rfl, (by omega), (by unfold awZ; repeat' (first | omega | split)), trivial⟩
  · skip
    refine q_if_eq 29 dX12_isAwake_24 (by decide) (fun h105 => ?_) (fun h105 => ?_)
    · skip
      refine tr_aload_n dX12_isAwake_29 rfl ?_
      refine tr_getR dX12_isAwake_30 fl12_385 (kR15 hW0 ta0) d2 ?_
      refine tr_getR dX12_isAwake_33 fl12_333 (kR14 hW0 ta1) d30 ?_
      refine tr_iload_n dX12_isAwake_36 rfl ?_
      refine q_iald dX12_isAwake_37 (kR63 hW0 ta29) (ti_in (nR63 hW0 ta29) (by omega) (by omega)) ?_
      intro v106 c107
      have ho108 : v106.toInt = nzT gZ (14 + x1.toInt.toNat) 0 := by rw [← show I0 a29 x1.toInt.toNat = v106 from c107]; exact hA77.2.tuN d30 (by omega) (by omega) (by omega)
      refine q_iconst dX12_isAwake_38 (by decide) ?_
      intro v109 h110
      refine q_icmp_ne 44 dX12_isAwake_39 (by decide) (fun h111 => ?_) (fun h111 => ?_)
      · skip
        refine tr_aload_n dX12_isAwake_44 rfl ?_
        refine tr_getR dX12_isAwake_45 fl12_37 (kR15 hW0 ta0) d56 ?_
        refine tr_iload_n dX12_isAwake_48 rfl ?_
        refine q_zald dX12_isAwake_49 (kR84 hW0 ta55) (ti_in (nR84 hW0 ta55) (by omega) (by omega)) ?_
        intro v112 c113
        have b114 := iv84 hW0 ta55 c113
        refine q_if_eq 55 dX12_isAwake_50 (by decide) (fun h115 => ?_) (fun h115 => ?_)
        · skip
          refine q_iconst dX12_isAwake_55 (by decide) ?_
          intro v116 h117
          refine tr_istore dX12_isAwake_56 (by decide) (by decide) ?_
          have lp127 : ∀ (fu : Nat) (ls : Nat → Option Value) (v118 : Int32), ls 0 = some (.ref a0) → ls 1 = some (.int x1) → ls 2 = some (.int x2) → ls 3 = some (.int x3) → ls 4 = some (.int v118) → 0 ≤ v118.toInt → v118.toInt ≤ v6.toInt → (exI (clZ gZ (x1.toInt.toNat : Int) x2.toInt) v118.toInt.toNat = 0) → (-v118.toInt + 2147483647).toNat < fu → Tr X mX12_isAwake 58 ls [] cn K N I0 R0 L0 0 0 := by
            intro fu
            induction fu with
            | zero => intros; rename_i hz; exact absurd hz (Nat.not_lt_zero _)
            | succ fu ih127 =>
              intro ls v118 hl119 hl120 hl121 hl122 hl123 g124 g125 rw126 hm127
              refine tr_iload dX12_isAwake_58 hl123 ?_
              refine tr_aload_n dX12_isAwake_60 hl119 ?_
              refine tr_getR dX12_isAwake_61 fl12_385 (kR15 hW0 ta0) d2 ?_
              refine q_getI dX12_isAwake_64 fl12_349 (kR14 hW0 ta1) c7 ?_
              refine q_icmp_ge 141 dX12_isAwake_67 (by decide) (fun h129 => ?_) (fun h129 => ?_)
              · skip
                refine q_iconst dX12_isAwake_141 (by decide) ?_
                intro v130 h131
                exact tr_zret hZ dX12_isAwake_142 rfl (ti_b01 (by omega) (by omega)) (by decide) (by decide) ⟨v130, rfl, rfl, rfl, rfl, rfl, rfl, rfl, (by omega), (by have ye := hP.2.1 _ d56 x2.toInt.toNat (by omega); rw [show I0 a55 x2.toInt.toNat = v112 from c113, show ((x2.toInt.toNat : Nat) : Int) = x2.toInt by omega] at ye; have yc := rw126; rw [show v118.toInt.toNat = (nzc gZ 5).toNat from congrArg Int.toNat (by omega)] at yc; unfold awZ; repeat' (first | omega | split)), trivial⟩
              · skip
                refine tr_iload_n dX12_isAwake_70 hl122 ?_
                refine tr_iload dX12_isAwake_71 hl123 ?_
                refine q_callSi hE (M' := mX12_has) (as := [_, _]) dX12_isAwake_73 lk12_329 inX12_has myX12_has ⟨by decide, by decide⟩ rfl (Nat.le_of_ble_eq_true rfl) rfl rfl (by decide) (by decide) (f_X12_hasW   (by omega) (by omega)) ?_
                rintro v137 cn' K' N' I132 R133 L134 ⟨rfl, rfl, rfl, rfl, rfl, rfl, h138, p139, -⟩
                have btv137 := bt_01 x3.toInt v118.toInt
                refine q_if_eq 135 dX12_isAwake_76 (by decide) (fun h140 => ?_) (fun h140 => ?_)
                · skip
                  refine q_iincE dX12_isAwake_135 hl123 (by decide) (by decide) (by intros; omega) ?_
                  intro v141 h142
                  refine tr_goto 58 dX12_isAwake_138 (by decide) ?_
                  exact ih127 _ v141 hl119 hl120 hl121 hl122 rfl (by omega) (by omega) (by rw [show v141.toInt.toNat = v118.toInt.toNat + 1 by omega]; exact exI_s rw126 (clZ_n (fun z1 z2 z3 z4 => by rw [show ((v118.toInt.toNat : Nat) : Int) = v118.toInt by omega, show nzM gZ = x3.toInt by omega] at z1; omega))) (by omega)
                · skip
                  refine tr_aload_n dX12_isAwake_79 hl119 ?_
                  refine tr_getR dX12_isAwake_80 fl12_385 (kR15 hW0 ta0) d2 ?_
                  refine tr_getR dX12_isAwake_83 fl12_358 (kR14 hW0 ta1) d42 ?_
                  refine tr_iload dX12_isAwake_86 hl123 ?_
                  refine q_iald dX12_isAwake_88 (kR69 hW0 ta41) (ti_in (nR69 hW0 ta41) (by omega) (by omega)) ?_
                  intro v143 c144
                  have ho145 : v143.toInt = nzT gZ (19 + v118.toInt.toNat) 0 := by rw [← show I0 a41 v118.toInt.toNat = v143 from c144]; exact hA77.2.caN d42 (by omega) (by omega) (by omega)
                  have ho145g := hG.ca (k := v118.toInt.toNat) (by omega)
                  refine tr_iload_n dX12_isAwake_89 hl120 ?_
                  refine q_icmp_ne 135 dX12_isAwake_90 (by decide) (fun h146 => ?_) (fun h146 => ?_)
                  · skip
                    refine q_iincE dX12_isAwake_135 hl123 (by decide) (by decide) (by intros; omega) ?_
                    intro v147 h148
                    refine tr_goto 58 dX12_isAwake_138 (by decide) ?_
                    exact ih127 _ v147 hl119 hl120 hl121 hl122 rfl (by omega) (by omega) (by rw [show v147.toInt.toNat = v118.toInt.toNat + 1 by omega]; exact exI_s rw126 (clZ_n (fun z1 z2 z3 z4 => by rw [show ((v118.toInt.toNat : Nat) : Int) = v118.toInt by omega, show nzM gZ = x3.toInt by omega] at z1; omega))) (by omega)
                  · skip
                    refine tr_iload_n dX12_isAwake_93 hl121 ?_
                    refine tr_aload_n dX12_isAwake_94 hl119 ?_
                    refine tr_getR dX12_isAwake_95 fl12_385 (kR15 hW0 ta0) d2 ?_
                    refine tr_getR dX12_isAwake_98 fl12_361 (kR14 hW0 ta1) d44 ?_
                    refine tr_iload dX12_isAwake_101 hl123 ?_
                    refine q_iald dX12_isAwake_103 (kR70 hW0 ta43) (ti_in (nR70 hW0 ta43) (by omega) (by omega)) ?_
                    intro v149 c150
                    have ho151 : v149.toInt = nzT gZ (19 + v118.toInt.toNat) 1 := by rw [← show I0 a43 v118.toInt.toNat = v149 from c150]; exact hA77.2.caN d44 (by omega) (by omega) (by omega)
                    have ho151g := hG.ca (k := v118.toInt.toNat) (by omega)
                    refine tr_aload_n dX12_isAwake_104 hl119 ?_
                    refine tr_getR dX12_isAwake_105 fl12_385 (kR15 hW0 ta0) d2 ?_
                    refine tr_getR dX12_isAwake_108 fl12_361 (kR14 hW0 ta1) d44 ?_
                    refine tr_iload dX12_isAwake_111 hl123 ?_
                    refine q_iald dX12_isAwake_113 (kR70 hW0 ta43) (ti_in (nR70 hW0 ta43) (by omega) (by omega)) ?_
                    intro v152 c153
                    have ho154 : v152.toInt = nzT gZ (19 + v118.toInt.toNat) 1 := by rw [← show I0 a43 v118.toInt.toNat = v152 from c153]; exact hA77.2.caN d44 (by omega) (by omega) (by omega)
                    have ho154g := hG.ca (k := v118.toInt.toNat) (by omega)
                    refine tr_aload_n dX12_isAwake_114 hl119 ?_
                    refine tr_getR dX12_isAwake_115 fl12_385 (kR15 hW0 ta0) d2 ?_
                    refine tr_getR dX12_isAwake_118 fl12_364 (kR14 hW0 ta1) d46 ?_
                    refine tr_iload dX12_isAwake_121 hl123 ?_
                    refine q_iald dX12_isAwake_123 (kR71 hW0 ta45) (ti_in (nR71 hW0 ta45) (by omega) (by omega)) ?_
                    intro v155 c156
                    have ho157 : v155.toInt = nzT gZ (19 + v118.toInt.toNat) 2 := by rw [← show I0 a45 v118.toInt.toNat = v155 from c156]; exact hA77.2.caN d46 (by omega) (by omega) (by omega)
                    have ho157g := hG.ca (k := v118.toInt.toNat) (by omega)
                    refine q_iaddE dX12_isAwake_124 (by intros; omega) ?_
                    intro v158 h159
                    refine q_iconst dX12_isAwake_125 (by decide) ?_
                    intro v160 h161
                    refine q_isubE dX12_isAwake_126 (by intros; omega) ?_
                    intro v162 h163
                    refine q_callSi hE (M' := mX12_in) (as := [_, _, _]) dX12_isAwake_127 lk12_149 inX12_in myX12_in ⟨by decide, by decide⟩ rfl (Nat.le_of_ble_eq_true rfl) rfl rfl (by decide) (by decide) (fk_X12_in hW0  ) ?_
                    rintro v169 cn' K' N' I164 R165 L166 ⟨rfl, rfl, rfl, rfl, rfl, rfl, h170, dj171, -⟩
                    rcases dj171 with ⟨p172, p173, p174, -⟩ | ⟨p175, p176, -⟩
                    · skip
                      refine q_if_eq 135 dX12_isAwake_130 (by decide) (fun h177 => ?_) (fun h177 => ?_)
                      · skip
                        exfalso; omega
                      · skip
                        refine q_iconst dX12_isAwake_133 (by decide) ?_
                        intro v178 h179
                        exact tr_zret hZ dX12_isAwake_134 rfl (ti_b01 (by omega) (by omega)) (by decide) (by decide) ⟨v178, rfl, rfl, rfl, rfl, rfl, rfl, rfl, (by omega), (by have ye := hP.2.1 _ d56 x2.toInt.toNat (by omega); rw [show I0 a55 x2.toInt.toNat = v112 from c113, show ((x2.toInt.toNat : Nat) : Int) = x2.toInt by omega] at ye; have yc := exI_1 (f := clZ gZ (x1.toInt.toNat : Int) x2.toInt) (nzc gZ 5).toNat v118.toInt.toNat (by omega) (clZ_1 (by rw [show ((v118.toInt.toNat : Nat) : Int) = v118.toInt by omega, show nzM gZ = x3.toInt by omega]; omega) (by omega) (by omega) (by omega)); unfold awZ; repeat' (first | omega | split)), trivial⟩
                    · skip
                      refine q_if_eq 135 dX12_isAwake_130 (by decide) (fun h180 => ?_) (fun h180 => ?_)
                      · skip
                        refine q_iincE dX12_isAwake_135 hl123 (by decide) (by decide) (by intros; omega) ?_
                        intro v181 h182
                        refine tr_goto 58 dX12_isAwake_138 (by decide) ?_
                        exact ih127 _ v181 hl119 hl120 hl121 hl122 rfl (by omega) (by omega) (by rw [show v181.toInt.toNat = v118.toInt.toNat + 1 by omega]; exact exI_s rw126 (clZ_n (fun z1 z2 z3 z4 => by rw [show ((v118.toInt.toNat : Nat) : Int) = v118.toInt by omega, show nzM gZ = x3.toInt by omega] at z1; omega))) (by omega)
                      · skip
                        exfalso; omega
          exact lp127 _ _ v116 rfl rfl rfl rfl rfl (by omega) (by omega) (by rw [show v116.toInt.toNat = 0 by omega]; rfl) (Nat.lt_succ_self _)
        · skip
          refine q_iconst dX12_isAwake_53 (by decide) ?_
          intro v183 h184
          exact tr_zret hZ dX12_isAwake_54 rfl (ti_b01 (by omega) (by omega)) (by decide) (by decide) ⟨v183, rfl, rfl, rfl, rfl, rfl, rfl, rfl, (by omega), (by have ye := hP.2.1 _ d56 x2.toInt.toNat (by omega); rw [show I0 a55 x2.toInt.toNat = v112 from c113, show ((x2.toInt.toNat : Nat) : Int) = x2.toInt by omega] at ye; unfold awZ; repeat' (first | omega | split)), trivial⟩
      · skip
        refine q_iconst dX12_isAwake_42 (by decide) ?_
        intro v185 h186
        exact tr_zret hZ dX12_isAwake_43 rfl (ti_b01 (by omega) (by omega)) (by decide) (by decide) ⟨v185, rfl, rfl, rfl, rfl, rfl, rfl, rfl, (by omega), (by unfold awZ; repeat' (first | omega | split)), trivial⟩
    · skip
      exfalso; omega
def wik_X12_awake : List Nat := [960, 961, 962, 5247, 5311, 5375, 5439, 5503, 5567]
def wrk_X12_awake : List Nat := []
def Cs_X12_awake (T : Nat → Nat) (I0 : cz_I) (R0 : cz_R) (a0 : Nat) (gX : Nat → Nat → Int) (gE : Nat → Nat → Int) (gc : Nat → Int) (x1 : Int32) (x2 : Int32) (v : Int32) (I' : cz_I) (R' : cz_R) : Prop :=
  ((v.toInt = -1) ∧ (R0 a0 3 = none) ∧ True) ∨
  ((∀ b1, R0 a0 3 = some b1 → (x1.toInt < 0 ∨ x1.toInt ≥ (I0 b1 4).toInt)) ∧ (v.toInt = -1) ∧ (∃ b, R0 a0 3 = some b) ∧ True) ∨
  ((0 ≤ x1.toInt) ∧ (∀ b1, R0 a0 3 = some b1 → x1.toInt < (I0 b1 4).toInt) ∧ (∀ b1, R0 a0 3 = some b1 → (x2.toInt < 0 ∨ x2.toInt ≥ (I0 b1 0).toInt)) ∧ (v.toInt = -1) ∧ (∃ b, R0 a0 3 = some b) ∧ True) ∨
  ((0 ≤ x1.toInt) ∧ (∀ b1, R0 a0 3 = some b1 → x1.toInt < (I0 b1 4).toInt) ∧ (0 ≤ x2.toInt) ∧ (∀ b1, R0 a0 3 = some b1 → x2.toInt < (I0 b1 0).toInt) ∧ (∃ b, R0 a0 3 = some b) ∧ (∀ b w, R0 a0 3 = some b → R0 a0 16 = some w → v.toInt = awZ (NgM I0 b w gX gE gc) x1.toInt.toNat x2.toInt) ∧ True)
set_option maxHeartbeats 4000000 in
theorem fk_X12_awake {l : Launch} {T : Nat → Nat} {cn : Nat} {K N : Nat → Nat} {I0 : cz_I} {R0 : cz_R} {L0 : cz_L} {d : Int} (hW0 : Wf T cn K N I0 R0 d) (gX : Nat → Nat → Int) (gE : Nat → Nat → Int) (gc : Nat → Int) {a0 : Nat} (ta0 : T a0 = 15) {x1 : Int32} {x2 : Int32} (hX : EvY I0 R0 a0 gX) (hA : NmE I0 R0 a0 gE gc) (hGd : GdE gc gE) (hMs : ∀ w, R0 a0 16 = some w → 0 ≤ (I0 w 0).toInt ∧ (I0 w 0).toInt ≤ 63) (h1 : ∀ b, R0 a0 3 = some b → 1 ≤ gc 0) : ConE l mX12_awake [.ref a0, .int x1, .int x2] cn K N I0 R0 L0 (ca_i (fun v cn' K' N' I' R' L' => cn = cn' ∧ K = K' ∧ N = N' ∧ R0 = R' ∧ L0 = L' ∧ St T cn K N d wik_X12_awake wrk_X12_awake I0 R0 I' R0 ∧ Cs_X12_awake T I0 R0 a0 gX gE gc x1 x2 v I' R0 ∧ True)) := by
  refine ConE.of (by decide +kernel) rfl (Nat.le_of_ble_eq_true rfl) rfl (fun X hX hZ hE => ?_)
  subst hX
  have hS0 : St T cn K N d wik_X12_awake wrk_X12_awake I0 R0 I0 R0 := St.rf0 hW0
  obtain ⟨a1, d2, ta1⟩ := rf15_16 hW0 ta0
  rcases rf15_3 hW0 ta0 with d4 | ⟨a3, d4, ta3⟩
  · skip
    refine tr_aload_n dX12_awake_0 rfl ?_
    refine q_iconst dX12_awake_1 (by decide) ?_
    intro v5 h6
    refine q_putI dX12_awake_2 fl12_70 (kR15 hS0.1 ta0) (Or.inl rfl) hS0 ta0 (iokF rfl) rfl (by decide +kernel) ?_
    intro I7 hS8 e9 f10
    refine tr_aload_n dX12_awake_5 rfl ?_
    refine tr_iload_n dX12_awake_6 rfl ?_
    refine q_callVi hE (M' := mX12_isTurner) (as := [_]) dX12_awake_7 lk12_452 inX12_isTurner seX12_isTurner myX12_isTurner (by decide) ⟨by decide, by decide⟩ rfl (kR15 hS8.1 ta0) (Nat.le_of_ble_eq_true rfl) rfl rfl (by decide) (by decide) (fk_X12_isTurner hS8.1  ta0) ?_
    rintro v16 cn' K' N' I11 R12 L13 ⟨rfl, rfl, rfl, rfl, rfl, rfl, h17, dj18, -⟩
    rcases dj18 with ⟨p19, rp20, -⟩ | ⟨p21, p22, p23, rp24, -⟩ | ⟨p25, p26, rp27, -⟩
    · skip
      refine q_if_ne 19 dX12_awake_10 (by decide) (fun h28 => ?_) (fun h28 => ?_)
      · skip
        exfalso; omega
      · skip
        refine tr_aload_n dX12_awake_13 rfl ?_
        refine q_iconst dX12_awake_14 (by decide) ?_
        intro v29 h30
        refine q_callVi hE (M' := mX12_refused) (as := [_]) dX12_awake_15 lk12_76 inX12_refused seX12_refused myX12_refused (by decide) ⟨by decide, by decide⟩ rfl (kR15 hS8.1 ta0) (Nat.le_of_ble_eq_true rfl) rfl rfl (by decide) (by decide) (fk_X12_refused hS8.1  ta0) ?_
        rintro v36 cn' K' N' I31 R32 L33 ⟨rfl, rfl, rfl, rfl, rfl, g34, p37, p38, p39, -⟩
        have hS40 := hS8.tr g34 (by decide +kernel) (by decide +kernel)
        have c41 : I31 a0 0 = v5 := (g34.cell ta0 (by decide +kernel)).trans e9
        obtain ⟨v42, c43⟩ : ∃ v, I31 a0 1 = v := ⟨_, rfl⟩
        rw [c43] at p38
        obtain ⟨v44, c45⟩ : ∃ v, I31 a0 2 = v := ⟨_, rfl⟩
        rw [c45] at p39
        exact tr_iret hZ dX12_awake_18 rfl (by decide) (by decide) ⟨v36, rfl, rfl, rfl, rfl, rfl, rfl, hS40, (Or.inl ⟨(by first | done | with_reducible assumption | omega), d4, trivial⟩), trivial⟩
    · skip
      exfalso; obtain ⟨z, hz⟩ := rp24; rw [d4] at hz; cases hz
    · skip
      exfalso; obtain ⟨z, hz⟩ := rp27; rw [d4] at hz; cases hz
  · skip
    obtain ⟨v47, c48⟩ : ∃ v, I0 a3 0 = v := ⟨_, rfl⟩
    have b49 := hW0.2.2.2.2.2.1 a0 ta0 _ d4
    rw [c48] at b49
    have b50 := iv14_0 hW0 ta3 c48
    obtain ⟨v51, c52⟩ : ∃ v, I0 a3 1 = v := ⟨_, rfl⟩
    have b53 := iv14_1 hW0 ta3 c52
    obtain ⟨v54, c55⟩ : ∃ v, I0 a3 2 = v := ⟨_, rfl⟩
    have b56 := iv14_2 hW0 ta3 c55
    obtain ⟨v57, c58⟩ : ∃ v, I0 a3 3 = v := ⟨_, rfl⟩
    have b59 := iv14_3 hW0 ta3 c58
    obtain ⟨v60, c61⟩ : ∃ v, I0 a3 4 = v := ⟨_, rfl⟩
    have b62 := iv14_4 hW0 ta3 c61
    obtain ⟨v63, c64⟩ : ∃ v, I0 a3 5 = v := ⟨_, rfl⟩
    have b65 := iv14_5 hW0 ta3 c64
    obtain ⟨v66, c67⟩ : ∃ v, I0 a1 0 = v := ⟨_, rfl⟩
    obtain ⟨v68, c69⟩ : ∃ v, I0 a1 1 = v := ⟨_, rfl⟩
    have b70 := iv77_1 hW0 ta1 (by decide) c69
    have hc46A := hA _ d4
    have hc46_0 := hc46A.1 0 (by omega)
    rw [c48] at hc46_0
    have hc46_1 := hc46A.1 1 (by omega)
    rw [c52] at hc46_1
    have hc46_3 := hc46A.1 3 (by omega)
    rw [c58] at hc46_3
    have hc46_4 := hc46A.1 4 (by omega)
    rw [c61] at hc46_4
    have hc46_5 := hc46A.1 5 (by omega)
    rw [c64] at hc46_5
    have hc46m := hMs _ d2
    have hc46g := hGd.own hc46m gX (-1) ((I0 a3 2).toInt + (I0 a1 1).toInt).toNat
    rw [c67] at hc46m
    have hc461 := h1 _ d4
    have hc46z0 : nzc (NgM I0 a3 a1 gX gE gc) 0 = gc 0 := rfl
    have hc46z1 : nzc (NgM I0 a3 a1 gX gE gc) 1 = gc 1 := rfl
    have hc46z3 : nzc (NgM I0 a3 a1 gX gE gc) 3 = gc 3 := rfl
    have hc46z4 : nzc (NgM I0 a3 a1 gX gE gc) 4 = gc 4 := rfl
    have hc46z5 : nzc (NgM I0 a3 a1 gX gE gc) 5 = gc 5 := rfl
    have hc46zw : nzW (NgM I0 a3 a1 gX gE gc) = pw (gc 4) - 1 := rfl
    have hc46zm : nzM (NgM I0 a3 a1 gX gE gc) = v66.toInt := congrArg Int32.toInt c67
    refine tr_aload_n dX12_awake_0 rfl ?_
    refine q_iconst dX12_awake_1 (by decide) ?_
    intro v71 h72
    refine q_putI dX12_awake_2 fl12_70 (kR15 hS0.1 ta0) (Or.inl rfl) hS0 ta0 (iokF rfl) rfl (by decide +kernel) ?_
    intro I73 hS74 e75 f76
    refine tr_aload_n dX12_awake_5 rfl ?_
    refine tr_iload_n dX12_awake_6 rfl ?_
    refine q_callVi hE (M' := mX12_isTurner) (as := [_]) dX12_awake_7 lk12_452 inX12_isTurner seX12_isTurner myX12_isTurner (by decide) ⟨by decide, by decide⟩ rfl (kR15 hS74.1 ta0) (Nat.le_of_ble_eq_true rfl) rfl rfl (by decide) (by decide) (fk_X12_isTurner hS74.1  ta0) ?_
    rintro v82 cn' K' N' I77 R78 L79 ⟨rfl, rfl, rfl, rfl, rfl, rfl, h83, dj84, -⟩
    rcases dj84 with ⟨p85, rp86, -⟩ | ⟨p87, p88, p89, rp90, -⟩ | ⟨p91, p92, rp93, -⟩
    · skip
      exfalso; have hz := rp86; rw [d4] at hz; cases hz
    · skip
      have p94 := p89 _ d4
      clear p89
      rw [((hS74.cell ta3 (by decide +kernel)).trans c61)] at p94
      refine q_if_ne 19 dX12_awake_10 (by decide) (fun h95 => ?_) (fun h95 => ?_)
      · skip
        refine tr_aload_n dX12_awake_19 rfl ?_
        refine tr_iload_n dX12_awake_20 rfl ?_
        refine q_callVi hE (M' := mX12_isMinute) (as := [_]) dX12_awake_21 lk12_443 inX12_isMinute seX12_isMinute myX12_isMinute (by decide) ⟨by decide, by decide⟩ rfl (kR15 hS74.1 ta0) (Nat.le_of_ble_eq_true rfl) rfl rfl (by decide) (by decide) (fk_X12_isMinute hS74.1  ta0 ⟨_, d4⟩) ?_
        rintro v101 cn' K' N' I96 R97 L98 ⟨rfl, rfl, rfl, rfl, rfl, rfl, h102, p103, p104, -⟩
        have p105 := p103 _ d4
        clear p103
        rw [((hS74.cell ta3 (by decide +kernel)).trans c48)] at p105
        have p106 := p104 _ d4
        clear p104
        rw [((hS74.cell ta3 (by decide +kernel)).trans c48)] at p106
        refine q_if_ne 33 dX12_awake_24 (by decide) (fun h107 => ?_) (fun h107 => ?_)
        · skip
          refine tr_aload_n dX12_awake_33 rfl ?_
          refine q_iconst dX12_awake_34 (by decide) ?_
          intro v108 h109
          refine q_callVv hE (M' := mX12_laysLight) (as := [_]) dX12_awake_35 lk12_434 inX12_laysLight seX12_laysLight myX12_laysLight (by decide) ⟨by decide, by decide⟩ rfl (kR15 hS74.1 ta0) (Nat.le_of_ble_eq_true rfl) rfl rfl (by decide) (by decide) (fk_X12_laysLight hS74.1 (gX) ta0 (EvY.st hX hW0 ta0 hS74 (by decide +kernel)) ⟨_, d4⟩) ?_
          rintro cn' K' N' I110 R111 L112 ⟨rfl, rfl, rfl, rfl, rfl, g113, rp116, -⟩
          have hS117 := hS74.tr g113 (by decide +kernel) (by decide +kernel)
          have c118 : I110 a0 0 = v71 := (g113.cell ta0 (by decide +kernel)).trans e75
          have hq119 : NmP I110 R0 a0 (mkZ gX (-1) ((I73 a3 2).toInt + (I73 a1 1).toInt).toNat gE gc (I0 a1 0).toInt (pw (gc 4) - 1)) := NmP.ll (by rw [← show v108.toInt = -1 by omega]; exact rp116) (NmE.st hA hW0 ta0 hS74 (by decide +kernel)) (NmE.st hA hW0 ta0 hS117 (by decide +kernel)) d4 d2
          rw [hS74.cell ta3 (by decide +kernel), hS74.cell ta1 (by decide +kernel)] at hq119
          have hq119 : NmP I110 R0 a0 (NgM I0 a3 a1 gX gE gc) := hq119
          refine tr_aload_n dX12_awake_38 rfl ?_
          refine tr_aload_n dX12_awake_39 rfl ?_
          refine tr_iload_n dX12_awake_40 rfl ?_
          refine tr_iload_n dX12_awake_41 rfl ?_
          refine tr_aload_n dX12_awake_42 rfl ?_
          refine tr_getR dX12_awake_43 fl12_17 (kR15 hS117.1 ta0) d2 ?_
          refine q_iconst dX12_awake_46 (by decide) ?_
          intro v120 h121
          refine q_iald dX12_awake_47 (kR77 hS117.1 ta1) (ti_in (nR77 hS117.1 ta1) (by omega) (by omega)) ?_
          intro v122 c123
          rw [show v120.toNatClampNeg = 0 from ti_cl (by omega)] at c123
          obtain rfl : v66 = v122 := (((hS117.cell ta1 (by decide +kernel)).trans c67)).symm.trans c123
          refine q_callVi hE (M' := mX12_isAwake) (as := [_, _, _]) dX12_awake_48 lk12_419 inX12_isAwake seX12_isAwake myX12_isAwake (by decide) ⟨by decide, by decide⟩ rfl (kR15 hS117.1 ta0) (Nat.le_of_ble_eq_true rfl) rfl rfl (by decide) (by decide) (fk_X12_isAwake hS117.1 ((NgM I0 a3 a1 gX gE gc)) ta0 (by omega) (by omega) (by omega) hq119 (hGd.own (hMs _ d2) _ _ _) (by first | done | with_reducible assumption | omega) (by first | done | with_reducible assumption | omega) (by first | done | with_reducible assumption | omega) ⟨_, d4⟩) ?_
          rintro v129 cn' K' N' I124 R125 L126 ⟨rfl, rfl, rfl, rfl, rfl, rfl, h130, rp131, -⟩
          refine q_if_eq 58 dX12_awake_51 (by decide) (fun h132 => ?_) (fun h132 => ?_)
          · skip
            refine q_iconst dX12_awake_58 (by decide) ?_
            intro v133 h134
            refine q_callVi hE (M' := mX12_good) (as := [_]) dX12_awake_59 lk12_81 inX12_good seX12_good myX12_good (by decide) ⟨by decide, by decide⟩ rfl (kR15 hS117.1 ta0) (Nat.le_of_ble_eq_true rfl) rfl rfl (by decide) (by decide) (fk_X12_good hS117.1  ta0) ?_
            rintro v140 cn' K' N' I135 R136 L137 ⟨rfl, rfl, rfl, rfl, rfl, g138, p141, p142, p143, -⟩
            have hS144 := hS117.tr g138 (by decide +kernel) (by decide +kernel)
            have c145 : I135 a0 0 = v71 := (g138.cell ta0 (by decide +kernel)).trans c118
            obtain ⟨v146, c147⟩ : ∃ v, I135 a0 1 = v := ⟨_, rfl⟩
            rw [c147] at p142
            obtain ⟨v148, c149⟩ : ∃ v, I135 a0 2 = v := ⟨_, rfl⟩
            rw [c149] at p143
            exact tr_iret hZ dX12_awake_62 rfl (by decide) (by decide) ⟨v140, rfl, rfl, rfl, rfl, rfl, rfl, hS144, (Or.inr (Or.inr (Or.inr (⟨(by first | done | with_reducible assumption | omega), (fun q0 z0 => by obtain rfl := Option.some.inj ((d4).symm.trans z0); (try rw [c61]); first | done | with_reducible assumption | omega), (by first | done | with_reducible assumption | omega), (fun q0 z0 => by obtain rfl := Option.some.inj ((d4).symm.trans z0); (try rw [c48]); first | done | with_reducible assumption | omega), ⟨_, d4⟩, (fun b w hb hw => by obtain rfl := Option.some.inj (d4.symm.trans hb); obtain rfl := Option.some.inj (d2.symm.trans hw); have e := rp131; omega), trivial⟩)))), trivial⟩
          · skip
            refine q_iconst dX12_awake_54 (by decide) ?_
            intro v150 h151
            refine tr_goto 59 dX12_awake_55 (by decide) ?_
            refine q_callVi hE (M' := mX12_good) (as := [_]) dX12_awake_59 lk12_81 inX12_good seX12_good myX12_good (by decide) ⟨by decide, by decide⟩ rfl (kR15 hS117.1 ta0) (Nat.le_of_ble_eq_true rfl) rfl rfl (by decide) (by decide) (fk_X12_good hS117.1  ta0) ?_
            rintro v157 cn' K' N' I152 R153 L154 ⟨rfl, rfl, rfl, rfl, rfl, g155, p158, p159, p160, -⟩
            have hS161 := hS117.tr g155 (by decide +kernel) (by decide +kernel)
            have c162 : I152 a0 0 = v71 := (g155.cell ta0 (by decide +kernel)).trans c118
            obtain ⟨v163, c164⟩ : ∃ v, I152 a0 1 = v := ⟨_, rfl⟩
            rw [c164] at p159
            obtain ⟨v165, c166⟩ : ∃ v, I152 a0 2 = v := ⟨_, rfl⟩
            rw [c166] at p160
            exact tr_iret hZ dX12_awake_62 rfl (by decide) (by decide) ⟨v157, rfl, rfl, rfl, rfl, rfl, rfl, hS161, (Or.inr (Or.inr (Or.inr (⟨(by first | done | with_reducible assumption | omega), (fun q0 z0 => by obtain rfl := Option.some.inj ((d4).symm.trans z0); (try rw [c61]); first | done | with_reducible assumption | omega), (by first | done | with_reducible assumption | omega), (fun q0 z0 => by obtain rfl := Option.some.inj ((d4).symm.trans z0); (try rw [c48]); first | done | with_reducible assumption | omega), ⟨_, d4⟩, (fun b w hb hw => by obtain rfl := Option.some.inj (d4.symm.trans hb); obtain rfl := Option.some.inj (d2.symm.trans hw); have e := rp131; omega), trivial⟩)))), trivial⟩
        · skip
          refine tr_aload_n dX12_awake_27 rfl ?_
          refine q_iconst dX12_awake_28 (by decide) ?_
          intro v167 h168
          refine q_callVi hE (M' := mX12_refused) (as := [_]) dX12_awake_29 lk12_76 inX12_refused seX12_refused myX12_refused (by decide) ⟨by decide, by decide⟩ rfl (kR15 hS74.1 ta0) (Nat.le_of_ble_eq_true rfl) rfl rfl (by decide) (by decide) (fk_X12_refused hS74.1  ta0) ?_
          rintro v174 cn' K' N' I169 R170 L171 ⟨rfl, rfl, rfl, rfl, rfl, g172, p175, p176, p177, -⟩
          have hS178 := hS74.tr g172 (by decide +kernel) (by decide +kernel)
          have c179 : I169 a0 0 = v71 := (g172.cell ta0 (by decide +kernel)).trans e75
          obtain ⟨v180, c181⟩ : ∃ v, I169 a0 1 = v := ⟨_, rfl⟩
          rw [c181] at p176
          obtain ⟨v182, c183⟩ : ∃ v, I169 a0 2 = v := ⟨_, rfl⟩
          rw [c183] at p177
          exact tr_iret hZ dX12_awake_32 rfl (by decide) (by decide) ⟨v174, rfl, rfl, rfl, rfl, rfl, rfl, hS178, (by first | exact Or.inr (Or.inl ⟨(fun q0 z0 => by obtain rfl := Option.some.inj ((d4).symm.trans z0); (try rw [c61]); first | done | with_reducible assumption | omega), (by first | done | with_reducible assumption | omega), ⟨_, d4⟩, trivial⟩) | exact Or.inr (Or.inr (Or.inl ⟨(by first | done | with_reducible assumption | omega), (fun q0 z0 => by obtain rfl := Option.some.inj ((d4).symm.trans z0); (try rw [c61]); first | done | with_reducible assumption | omega), (fun q0 z0 => by obtain rfl := Option.some.inj ((d4).symm.trans z0); (try rw [c48]); first | done | with_reducible assumption | omega), (by first | done | with_reducible assumption | omega), ⟨_, d4⟩, trivial⟩)) | exact Or.inr (Or.inr (Or.inr (⟨(by first | done | with_reducible assumption | omega), (fun q0 z0 => by obtain rfl := Option.some.inj ((d4).symm.trans z0); (try rw [c61]); first | done | with_reducible assumption | omega), (by first | done | with_reducible assumption | omega), (fun q0 z0 => by obtain rfl := Option.some.inj ((d4).symm.trans z0); (try rw [c48]); first | done | with_reducible assumption | omega), ⟨_, d4⟩, (by exfalso; omega), trivial⟩)))), trivial⟩
      · skip
        exfalso; omega
    · skip
      have p184 := p92 _ d4
      clear p92
      rw [((hS74.cell ta3 (by decide +kernel)).trans c61)] at p184
      refine q_if_ne 19 dX12_awake_10 (by decide) (fun h185 => ?_) (fun h185 => ?_)
      · skip
        exfalso; omega
      · skip
        refine tr_aload_n dX12_awake_13 rfl ?_
        refine q_iconst dX12_awake_14 (by decide) ?_
        intro v186 h187
        refine q_callVi hE (M' := mX12_refused) (as := [_]) dX12_awake_15 lk12_76 inX12_refused seX12_refused myX12_refused (by decide) ⟨by decide, by decide⟩ rfl (kR15 hS74.1 ta0) (Nat.le_of_ble_eq_true rfl) rfl rfl (by decide) (by decide) (fk_X12_refused hS74.1  ta0) ?_
        rintro v193 cn' K' N' I188 R189 L190 ⟨rfl, rfl, rfl, rfl, rfl, g191, p194, p195, p196, -⟩
        have hS197 := hS74.tr g191 (by decide +kernel) (by decide +kernel)
        have c198 : I188 a0 0 = v71 := (g191.cell ta0 (by decide +kernel)).trans e75
        obtain ⟨v199, c200⟩ : ∃ v, I188 a0 1 = v := ⟨_, rfl⟩
        rw [c200] at p195
        obtain ⟨v201, c202⟩ : ∃ v, I188 a0 2 = v := ⟨_, rfl⟩
        rw [c202] at p196
        exact tr_iret hZ dX12_awake_18 rfl (by decide) (by decide) ⟨v193, rfl, rfl, rfl, rfl, rfl, rfl, hS197, (by first | exact Or.inr (Or.inl ⟨(fun q0 z0 => by obtain rfl := Option.some.inj ((d4).symm.trans z0); (try rw [c61]); first | done | with_reducible assumption | omega), (by first | done | with_reducible assumption | omega), ⟨_, d4⟩, trivial⟩) | exact Or.inr (Or.inr (Or.inl ⟨(by first | done | with_reducible assumption | omega), (fun q0 z0 => by obtain rfl := Option.some.inj ((d4).symm.trans z0); (try rw [c61]); first | done | with_reducible assumption | omega), (fun q0 z0 => by obtain rfl := Option.some.inj ((d4).symm.trans z0); (try rw [c48]); first | done | with_reducible assumption | omega), (by first | done | with_reducible assumption | omega), ⟨_, d4⟩, trivial⟩)) | exact Or.inr (Or.inr (Or.inr (⟨(by first | done | with_reducible assumption | omega), (fun q0 z0 => by obtain rfl := Option.some.inj ((d4).symm.trans z0); (try rw [c61]); first | done | with_reducible assumption | omega), (by first | done | with_reducible assumption | omega), (fun q0 z0 => by obtain rfl := Option.some.inj ((d4).symm.trans z0); (try rw [c48]); first | done | with_reducible assumption | omega), ⟨_, d4⟩, (by exfalso; omega), trivial⟩)))), trivial⟩
