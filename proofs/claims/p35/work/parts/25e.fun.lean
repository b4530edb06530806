set_option maxHeartbeats 4000000 in
theorem fk_X7_lineWord {l : Launch} {T : Nat → Nat} {cn : Nat} {K N : Nat → Nat} {I0 : cz_I} {R0 : cz_R} {L0 : cz_L} {d : Int} (hW0 : Wf T cn K N I0 R0 d)  {x0 : Int32} : ConE l mX7_lineWord [.int x0] cn K N I0 R0 L0 (ca_s (fun v cn' K' N' I' R' L' => cn = cn' ∧ K = K' ∧ N = N' ∧ I0 = I' ∧ R0 = R' ∧ L0 = L' ∧ v.toNat < cz_NS ∧ (v = lwU x0.toInt) ∧ True)) := by
  refine ConE.of (by decide +kernel) rfl (Nat.le_of_ble_eq_true rfl) rfl (fun X hX hZ hE => ?_)
  subst hX
  refine tr_iload_n dX7_lineWord_0 rfl ?_
  by_cases h1 : x0.toInt = 0
  · skip
    refine tr_tabIn (off := 55) 56 dX7_lineWord_1 (by exact om_7c055b42 h1) (by exact om_1a9acda8 h1) (by rw [h1]; decide +kernel) (by decide) ?_
    refine tr_ldcS dX7_lineWord_56 ld7_131 ?_
    exact tr_aretS hZ dX7_lineWord_58 rfl (by decide) (by decide) ⟨(7 : UInt32), rfl, rfl, rfl, rfl, rfl, rfl, rfl, (by decide), (by unfold lwU; repeat' (first | rfl | (exfalso; fail) | split)), trivial⟩
  · skip
    by_cases h2 : x0.toInt = 1
    · skip
      refine tr_tabIn (off := 58) 59 dX7_lineWord_1 (by exact om_6183b2fb h2) (by exact om_cbb17ab2 h2) (by rw [h2]; decide +kernel) (by decide) ?_
      refine tr_ldcS dX7_lineWord_59 ld7_133 ?_
      exact tr_aretS hZ dX7_lineWord_61 rfl (by decide) (by decide) ⟨(11 : UInt32), rfl, rfl, rfl, rfl, rfl, rfl, rfl, (by decide), (by unfold lwU; repeat' (first | rfl | (exfalso; omega) | split)), trivial⟩
    · skip
      by_cases h3 : x0.toInt = 2
      · skip
        refine tr_tabIn (off := 61) 62 dX7_lineWord_1 (by exact om_1174f472 h3) (by exact om_6084c293 h3) (by rw [h3]; decide +kernel) (by decide) ?_
        refine tr_ldcS dX7_lineWord_62 ld7_135 ?_
        exact tr_aretS hZ dX7_lineWord_64 rfl (by decide) (by decide) ⟨(17 : UInt32), rfl, rfl, rfl, rfl, rfl, rfl, rfl, (by decide), (by unfold lwU; repeat' (first | rfl | (exfalso; omega) | split)), trivial⟩
      · skip
        by_cases h4 : x0.toInt = 3
        · skip
          refine tr_tabIn (off := 64) 65 dX7_lineWord_1 (by exact om_d4b200a6 h4) (by exact om_d1804ac8 h4) (by rw [h4]; decide +kernel) (by decide) ?_
          refine tr_ldcS dX7_lineWord_65 ld7_137 ?_
          exact tr_aretS hZ dX7_lineWord_67 rfl (by decide) (by decide) ⟨(22 : UInt32), rfl, rfl, rfl, rfl, rfl, rfl, rfl, (by decide), (by unfold lwU; repeat' (first | rfl | (exfalso; omega) | split)), trivial⟩
        · skip
          by_cases h5 : x0.toInt = 4
          · skip
            refine tr_tabIn (off := 67) 68 dX7_lineWord_1 (by exact om_d336d452 h5) (by exact om_b3dfc4cb h5) (by rw [h5]; decide +kernel) (by decide) ?_
            refine tr_ldcS dX7_lineWord_68 ld7_139 ?_
            exact tr_aretS hZ dX7_lineWord_70 rfl (by decide) (by decide) ⟨(4 : UInt32), rfl, rfl, rfl, rfl, rfl, rfl, rfl, (by decide), (by unfold lwU; repeat' (first | rfl | (exfalso; omega) | split)), trivial⟩
          · skip
            by_cases h6 : x0.toInt = 5
            · skip
              refine tr_tabIn (off := 70) 71 dX7_lineWord_1 (by exact om_d3aa380d h6) (by exact om_cf5467f3 h6) (by rw [h6]; decide +kernel) (by decide) ?_
              refine tr_ldcS dX7_lineWord_71 ld7_141 ?_
              exact tr_aretS hZ dX7_lineWord_73 rfl (by decide) (by decide) ⟨(6 : UInt32), rfl, rfl, rfl, rfl, rfl, rfl, rfl, (by decide), (by unfold lwU; repeat' (first | rfl | (exfalso; omega) | split)), trivial⟩
            · skip
              by_cases h7 : x0.toInt = 6
              · skip
                refine tr_tabIn (off := 73) 74 dX7_lineWord_1 (by exact om_59370c92 h7) (by exact om_acd01873 h7) (by rw [h7]; decide +kernel) (by decide) ?_
                refine tr_ldcS dX7_lineWord_74 ld7_143 ?_
                exact tr_aretS hZ dX7_lineWord_76 rfl (by decide) (by decide) ⟨(0 : UInt32), rfl, rfl, rfl, rfl, rfl, rfl, rfl, (by decide), (by unfold lwU; repeat' (first | rfl | (exfalso; omega) | split)), trivial⟩
              · skip
                by_cases h8 : x0.toInt = 7
                · skip
                  refine tr_tabIn (off := 76) 77 dX7_lineWord_1 (by exact om_cec2ae46 h8) (by exact om_2877bdd5 h8) (by rw [h8]; decide +kernel) (by decide) ?_
                  refine tr_ldcS dX7_lineWord_77 ld7_145 ?_
                  exact tr_aretS hZ dX7_lineWord_79 rfl (by decide) (by decide) ⟨(26 : UInt32), rfl, rfl, rfl, rfl, rfl, rfl, rfl, (by decide), (by unfold lwU; repeat' (first | rfl | (exfalso; omega) | split)), trivial⟩
                · skip
                  by_cases h9 : x0.toInt = 8
                  · skip
                    refine tr_tabIn (off := 79) 80 dX7_lineWord_1 (by exact om_e7d54e08 h9) (by exact om_34516d07 h9) (by rw [h9]; decide +kernel) (by decide) ?_
                    refine tr_ldcS dX7_lineWord_80 ld7_147 ?_
                    exact tr_aretS hZ dX7_lineWord_82 rfl (by decide) (by decide) ⟨(5 : UInt32), rfl, rfl, rfl, rfl, rfl, rfl, rfl, (by decide), (by unfold lwU; repeat' (first | rfl | (exfalso; omega) | split)), trivial⟩
                  · skip
                    by_cases h10 : x0.toInt = 9
                    · skip
                      refine tr_tabIn (off := 82) 83 dX7_lineWord_1 (by exact om_5471ed28 h10) (by exact om_f9b817e8 h10) (by rw [h10]; decide +kernel) (by decide) ?_
                      refine tr_ldcS dX7_lineWord_83 ld7_149 ?_
                      exact tr_aretS hZ dX7_lineWord_85 rfl (by decide) (by decide) ⟨(23 : UInt32), rfl, rfl, rfl, rfl, rfl, rfl, rfl, (by decide), (by unfold lwU; repeat' (first | rfl | (exfalso; omega) | split)), trivial⟩
                    · skip
                      refine tr_tabOut 86 dX7_lineWord_1 (by exact om_188b7534 h1 h2 h3 h4 h5 h6 h7 h8 h9 h10) (by decide) ?_
                      refine tr_ldcS dX7_lineWord_86 ld7_151 ?_
                      exact tr_aretS hZ dX7_lineWord_88 rfl (by decide) (by decide) ⟨(1 : UInt32), rfl, rfl, rfl, rfl, rfl, rfl, rfl, (by decide), (by unfold lwU; repeat' (first | rfl | (exfalso; omega) | split)), trivial⟩
set_option maxHeartbeats 4000000 in
theorem fk_X7_sortOfWord {l : Launch} {T : Nat → Nat} {cn : Nat} {K N : Nat → Nat} {I0 : cz_I} {R0 : cz_R} {L0 : cz_L} {d : Int} (hW0 : Wf T cn K N I0 R0 d) (gB : cz_B) (gs : Int) {a0 : Nat} (ta0 : T a0 = 7) (pre0 : (I0 a0 3).toInt = (tkK gB gs)) (pre1 : (AtW ((tkK gB gs)) ((L0 a0 5).toInt) ((tkW gB gs)))) : ConE l mX7_sortOfWord [.ref a0] cn K N I0 R0 L0 (ca_i (fun v cn' K' N' I' R' L' => cn = cn' ∧ K = K' ∧ N = N' ∧ I0 = I' ∧ R0 = R' ∧ L0 = L' ∧ ((-1) ≤ v.toInt ∧ v.toInt ≤ 10) ∧ (v.toInt = (srt gB gs)) ∧ True)) := by
  refine ConE.of (by decide +kernel) rfl (Nat.le_of_ble_eq_true rfl) rfl (fun X hX hZ hE => ?_)
  subst hX
  obtain ⟨v1, c2⟩ : ∃ v, I0 a0 3 = v := ⟨_, rfl⟩
  have b3 := iv7_3 hW0 ta0 c2
  have p4 := pre0
  rw [c2] at p4
  obtain ⟨y5, c6⟩ : ∃ v, L0 a0 5 = v := ⟨_, rfl⟩
  have p7 := pre1
  rw [c6] at p7
  refine q_iconst dX7_sortOfWord_0 (by decide) ?_
  intro v8 h9
  refine tr_istore_n dX7_sortOfWord_1 (by decide) (by decide) ?_
  refine tr_iload_n dX7_sortOfWord_2 rfl ?_
  refine q_bipush dX7_sortOfWord_3 (by decide +kernel) ?_
  intro v10 h11
  refine q_icmp_gt 39 dX7_sortOfWord_5 (by decide) (fun h12 => ?_) (fun h12 => ?_)
  · skip
    exfalso; exact om_31508a16 h9 h11 h12
  · skip
    refine tr_aload_n dX7_sortOfWord_8 rfl ?_
    refine q_getI dX7_sortOfWord_9 fl7_58 (kR7 hW0 ta0) c2 ?_
    refine q_iconst dX7_sortOfWord_12 (by decide) ?_
    intro v13 h14
    refine q_icmp_ne 33 dX7_sortOfWord_13 (by decide) (fun h15 => ?_) (fun h15 => ?_)
    · skip
      refine q_iincE dX7_sortOfWord_33 rfl (by decide) (by decide) (by intro j1 j2; exact om_502d7b61 h9) ?_
      intro v16 h17
      refine tr_goto 2 dX7_sortOfWord_36 (by decide) ?_
      refine tr_iload_n dX7_sortOfWord_2 rfl ?_
      refine q_bipush dX7_sortOfWord_3 (by decide +kernel) ?_
      intro v18 h19
      refine q_icmp_gt 39 dX7_sortOfWord_5 (by decide) (fun h20 => ?_) (fun h20 => ?_)
      · skip
        exfalso; exact om_af5ebe16 h9 h17 h19 h20
      · skip
        refine tr_aload_n dX7_sortOfWord_8 rfl ?_
        refine q_getI dX7_sortOfWord_9 fl7_58 (kR7 hW0 ta0) c2 ?_
        refine q_iconst dX7_sortOfWord_12 (by decide) ?_
        intro v21 h22
        refine q_icmp_ne 33 dX7_sortOfWord_13 (by decide) (fun h23 => ?_) (fun h23 => ?_)
        · skip
          refine q_iincE dX7_sortOfWord_33 rfl (by decide) (by decide) (by intro j1 j2; exact om_ffa31f14 h9 h17) ?_
          intro v24 h25
          refine tr_goto 2 dX7_sortOfWord_36 (by decide) ?_
          refine tr_iload_n dX7_sortOfWord_2 rfl ?_
          refine q_bipush dX7_sortOfWord_3 (by decide +kernel) ?_
          intro v26 h27
          refine q_icmp_gt 39 dX7_sortOfWord_5 (by decide) (fun h28 => ?_) (fun h28 => ?_)
          · skip
            exfalso; exact om_b783fc06 h9 h17 h25 h27 h28
          · skip
            refine tr_aload_n dX7_sortOfWord_8 rfl ?_
            refine q_getI dX7_sortOfWord_9 fl7_58 (kR7 hW0 ta0) c2 ?_
            refine q_iconst dX7_sortOfWord_12 (by decide) ?_
            intro v29 h30
            refine q_icmp_ne 33 dX7_sortOfWord_13 (by decide) (fun h31 => ?_) (fun h31 => ?_)
            · skip
              refine q_iincE dX7_sortOfWord_33 rfl (by decide) (by decide) (by intro j1 j2; exact om_c222afaf h9 h17 h25) ?_
              intro v32 h33
              refine tr_goto 2 dX7_sortOfWord_36 (by decide) ?_
              refine tr_iload_n dX7_sortOfWord_2 rfl ?_
              refine q_bipush dX7_sortOfWord_3 (by decide +kernel) ?_
              intro v34 h35
              refine q_icmp_gt 39 dX7_sortOfWord_5 (by decide) (fun h36 => ?_) (fun h36 => ?_)
              · skip
                exfalso; exact om_d9f92728 h9 h17 h25 h33 h35 h36
              · skip
                refine tr_aload_n dX7_sortOfWord_8 rfl ?_
                refine q_getI dX7_sortOfWord_9 fl7_58 (kR7 hW0 ta0) c2 ?_
                refine q_iconst dX7_sortOfWord_12 (by decide) ?_
                intro v37 h38
                refine q_icmp_ne 33 dX7_sortOfWord_13 (by decide) (fun h39 => ?_) (fun h39 => ?_)
                · skip
                  refine q_iincE dX7_sortOfWord_33 rfl (by decide) (by decide) (by intro j1 j2; exact om_3ce631fb h9 h17 h25 h33) ?_
                  intro v40 h41
                  refine tr_goto 2 dX7_sortOfWord_36 (by decide) ?_
                  refine tr_iload_n dX7_sortOfWord_2 rfl ?_
                  refine q_bipush dX7_sortOfWord_3 (by decide +kernel) ?_
                  intro v42 h43
                  refine q_icmp_gt 39 dX7_sortOfWord_5 (by decide) (fun h44 => ?_) (fun h44 => ?_)
                  · skip
                    exfalso; exact om_de00222c h9 h17 h25 h33 h41 h43 h44
                  · skip
                    refine tr_aload_n dX7_sortOfWord_8 rfl ?_
                    refine q_getI dX7_sortOfWord_9 fl7_58 (kR7 hW0 ta0) c2 ?_
                    refine q_iconst dX7_sortOfWord_12 (by decide) ?_
                    intro v45 h46
                    refine q_icmp_ne 33 dX7_sortOfWord_13 (by decide) (fun h47 => ?_) (fun h47 => ?_)
                    · skip
                      refine q_iincE dX7_sortOfWord_33 rfl (by decide) (by decide) (by intro j1 j2; exact om_32d85275 h9 h17 h25 h33 h41) ?_
                      intro v48 h49
                      refine tr_goto 2 dX7_sortOfWord_36 (by decide) ?_
                      refine tr_iload_n dX7_sortOfWord_2 rfl ?_
                      refine q_bipush dX7_sortOfWord_3 (by decide +kernel) ?_
                      intro v50 h51
                      refine q_icmp_gt 39 dX7_sortOfWord_5 (by decide) (fun h52 => ?_) (fun h52 => ?_)
                      · skip
                        exfalso; exact om_cab3f94e h9 h17 h25 h33 h41 h49 h51 h52
                      · skip
                        refine tr_aload_n dX7_sortOfWord_8 rfl ?_
                        refine q_getI dX7_sortOfWord_9 fl7_58 (kR7 hW0 ta0) c2 ?_
                        refine q_iconst dX7_sortOfWord_12 (by decide) ?_
                        intro v53 h54
                        refine q_icmp_ne 33 dX7_sortOfWord_13 (by decide) (fun h55 => ?_) (fun h55 => ?_)
                        · skip
                          refine q_iincE dX7_sortOfWord_33 rfl (by decide) (by decide) (by intro j1 j2; exact om_d2b52aae h9 h17 h25 h33 h41 h49) ?_
                          intro v56 h57
                          refine tr_goto 2 dX7_sortOfWord_36 (by decide) ?_
                          refine tr_iload_n dX7_sortOfWord_2 rfl ?_
                          refine q_bipush dX7_sortOfWord_3 (by decide +kernel) ?_
                          intro v58 h59
                          refine q_icmp_gt 39 dX7_sortOfWord_5 (by decide) (fun h60 => ?_) (fun h60 => ?_)
                          · skip
                            exfalso; exact om_51264b20 h9 h17 h25 h33 h41 h49 h57 h59 h60
                          · skip
                            refine tr_aload_n dX7_sortOfWord_8 rfl ?_
                            refine q_getI dX7_sortOfWord_9 fl7_58 (kR7 hW0 ta0) c2 ?_
                            refine q_iconst dX7_sortOfWord_12 (by decide) ?_
                            intro v61 h62
                            refine q_icmp_ne 33 dX7_sortOfWord_13 (by decide) (fun h63 => ?_) (fun h63 => ?_)
                            · skip
                              refine q_iincE dX7_sortOfWord_33 rfl (by decide) (by decide) (by intro j1 j2; exact om_4726b73e h9 h17 h25 h33 h41 h49 h57) ?_
                              intro v64 h65
                              refine tr_goto 2 dX7_sortOfWord_36 (by decide) ?_
                              refine tr_iload_n dX7_sortOfWord_2 rfl ?_
                              refine q_bipush dX7_sortOfWord_3 (by decide +kernel) ?_
                              intro v66 h67
                              refine q_icmp_gt 39 dX7_sortOfWord_5 (by decide) (fun h68 => ?_) (fun h68 => ?_)
                              · skip
                                exfalso; exact om_dff351a4 h9 h17 h25 h33 h41 h49 h57 h65 h67 h68
                              · skip
                                refine tr_aload_n dX7_sortOfWord_8 rfl ?_
                                refine q_getI dX7_sortOfWord_9 fl7_58 (kR7 hW0 ta0) c2 ?_
                                refine q_iconst dX7_sortOfWord_12 (by decide) ?_
                                intro v69 h70
                                refine q_icmp_ne 33 dX7_sortOfWord_13 (by decide) (fun h71 => ?_) (fun h71 => ?_)
                                · skip
                                  refine q_iincE dX7_sortOfWord_33 rfl (by decide) (by decide) (by intro j1 j2; exact om_022b56b1 h9 h17 h25 h33 h41 h49 h57 h65) ?_
                                  intro v72 h73
                                  refine tr_goto 2 dX7_sortOfWord_36 (by decide) ?_
                                  refine tr_iload_n dX7_sortOfWord_2 rfl ?_
                                  refine q_bipush dX7_sortOfWord_3 (by decide +kernel) ?_
                                  intro v74 h75
                                  refine q_icmp_gt 39 dX7_sortOfWord_5 (by decide) (fun h76 => ?_) (fun h76 => ?_)
                                  · skip
                                    exfalso; exact om_f4464e29 h9 h17 h25 h33 h41 h49 h57 h65 h73 h75 h76
                                  · skip
                                    refine tr_aload_n dX7_sortOfWord_8 rfl ?_
                                    refine q_getI dX7_sortOfWord_9 fl7_58 (kR7 hW0 ta0) c2 ?_
                                    refine q_iconst dX7_sortOfWord_12 (by decide) ?_
                                    intro v77 h78
                                    refine q_icmp_ne 33 dX7_sortOfWord_13 (by decide) (fun h79 => ?_) (fun h79 => ?_)
                                    · skip
                                      refine q_iincE dX7_sortOfWord_33 rfl (by decide) (by decide) (by intro j1 j2; exact om_30f136aa h9 h17 h25 h33 h41 h49 h57 h65 h73) ?_
                                      intro v80 h81
                                      refine tr_goto 2 dX7_sortOfWord_36 (by decide) ?_
                                      refine tr_iload_n dX7_sortOfWord_2 rfl ?_
                                      refine q_bipush dX7_sortOfWord_3 (by decide +kernel) ?_
                                      intro v82 h83
                                      refine q_icmp_gt 39 dX7_sortOfWord_5 (by decide) (fun h84 => ?_) (fun h84 => ?_)
                                      · skip
                                        exfalso; exact om_5ec536e6 h9 h17 h25 h33 h41 h49 h57 h65 h73 h81 h83 h84
                                      · skip
                                        refine tr_aload_n dX7_sortOfWord_8 rfl ?_
                                        refine q_getI dX7_sortOfWord_9 fl7_58 (kR7 hW0 ta0) c2 ?_
                                        refine q_iconst dX7_sortOfWord_12 (by decide) ?_
                                        intro v85 h86
                                        refine q_icmp_ne 33 dX7_sortOfWord_13 (by decide) (fun h87 => ?_) (fun h87 => ?_)
                                        · skip
                                          refine q_iincE dX7_sortOfWord_33 rfl (by decide) (by decide) (by intro j1 j2; exact om_e15732c6 h9 h17 h25 h33 h41 h49 h57 h65 h73 h81) ?_
                                          intro v88 h89
                                          refine tr_goto 2 dX7_sortOfWord_36 (by decide) ?_
                                          refine tr_iload_n dX7_sortOfWord_2 rfl ?_
                                          refine q_bipush dX7_sortOfWord_3 (by decide +kernel) ?_
                                          intro v90 h91
                                          refine q_icmp_gt 39 dX7_sortOfWord_5 (by decide) (fun h92 => ?_) (fun h92 => ?_)
                                          · skip
                                            exfalso; exact om_8357c0fc h9 h17 h25 h33 h41 h49 h57 h65 h73 h81 h89 h91 h92
                                          · skip
                                            refine tr_aload_n dX7_sortOfWord_8 rfl ?_
                                            refine q_getI dX7_sortOfWord_9 fl7_58 (kR7 hW0 ta0) c2 ?_
                                            refine q_iconst dX7_sortOfWord_12 (by decide) ?_
                                            intro v93 h94
                                            refine q_icmp_ne 33 dX7_sortOfWord_13 (by decide) (fun h95 => ?_) (fun h95 => ?_)
                                            · skip
                                              refine q_iincE dX7_sortOfWord_33 rfl (by decide) (by decide) (by intro j1 j2; exact om_3cf4c280 h9 h17 h25 h33 h41 h49 h57 h65 h73 h81 h89) ?_
                                              intro v96 h97
                                              refine tr_goto 2 dX7_sortOfWord_36 (by decide) ?_
                                              refine tr_iload_n dX7_sortOfWord_2 rfl ?_
                                              refine q_bipush dX7_sortOfWord_3 (by decide +kernel) ?_
                                              intro v98 h99
                                              refine q_icmp_gt 39 dX7_sortOfWord_5 (by decide) (fun h100 => ?_) (fun h100 => ?_)
                                              · skip
                                                refine q_iconst dX7_sortOfWord_39 (by decide) ?_
                                                intro v101 h102
                                                have sr103 : srt gB gs = -1 := srt_nk (by exact om_4b5de522 p4 h94 h95)
                                                exact tr_iret hZ dX7_sortOfWord_40 rfl (by decide) (by decide) ⟨v101, rfl, rfl, rfl, rfl, rfl, rfl, rfl, (by exact om_e48a2dce h102), (by first | done | with_reducible assumption | exact om_357b0e22 h102 sr103), trivial⟩
                                              · skip
                                                exfalso; exact om_a571815b h9 h17 h25 h33 h41 h49 h57 h65 h73 h81 h89 h97 h99 h100
                                            · skip
                                              exfalso; exact om_8c674ab8 h86 h87 h94 h95
                                        · skip
                                          exfalso; exact om_8c674ab8 h78 h79 h86 h87
                                    · skip
                                      exfalso; exact om_8c674ab8 h70 h71 h78 h79
                                · skip
                                  exfalso; exact om_8c674ab8 h62 h63 h70 h71
                            · skip
                              exfalso; exact om_8c674ab8 h54 h55 h62 h63
                        · skip
                          exfalso; exact om_8c674ab8 h46 h47 h54 h55
                    · skip
                      exfalso; exact om_8c674ab8 h38 h39 h46 h47
                · skip
                  exfalso; exact om_8c674ab8 h30 h31 h38 h39
            · skip
              exfalso; exact om_8c674ab8 h22 h23 h30 h31
        · skip
          exfalso; exact om_8c674ab8 h14 h15 h22 h23
    · skip
      refine tr_aload_n dX7_sortOfWord_16 rfl ?_
      have p104 := p7 (by exact om_94131590 p4 h14 h15)
      refine q_getLE dX7_sortOfWord_17 fl7_78 (kR7 hW0 ta0) c6 ?_
      refine tr_iload_n dX7_sortOfWord_20 rfl ?_
      refine q_callSs hE (M' := mX7_lineWord) (as := [_]) dX7_sortOfWord_21 lk7_152 inX7_lineWord myX7_lineWord ⟨by decide, by decide⟩ rfl (Nat.le_of_ble_eq_true rfl) rfl rfl (by decide) (by decide) (fk_X7_lineWord hW0  ) ?_
      rintro u110 cn' K' N' I105 R106 L107 ⟨rfl, rfl, rfl, rfl, rfl, rfl, tu110, rp111, -⟩
      obtain rfl : u110 = (7 : UInt32) := rp111.trans (by rw [show v8.toInt = 0 by exact om_29f55913 h9]; decide +kernel)
      refine q_callSl hE (M' := mX7_packed) (as := [_]) dX7_sortOfWord_24 lk7_97 inX7_packed myX7_packed ⟨by decide, by decide⟩ rfl (Nat.le_of_ble_eq_true rfl) rfl rfl (by decide) (by decide) (f_X7_packed   (by decide)) ?_
      rintro y117 cn' K' N' I112 R113 L114 ⟨rfl, rfl, rfl, rfl, rfl, rfl, p118, -⟩
      (try rw [pk_7] at p118)
      refine q_lcmpNe 33 dX7_sortOfWord_27 dX7_sortOfWord_28 (by decide) (fun h119 => ?_) (fun h119 => ?_)
      · skip
        have nw120 : NeI (tkW gB gs) 3554980 := fun q => h119 (by exact om_bf7d4f2d p104 p118 q)
        clear h119
        refine q_iincE dX7_sortOfWord_33 rfl (by decide) (by decide) (by intro j1 j2; exact om_502d7b61 h9) ?_
        intro v121 h122
        refine tr_goto 2 dX7_sortOfWord_36 (by decide) ?_
        refine tr_iload_n dX7_sortOfWord_2 rfl ?_
        refine q_bipush dX7_sortOfWord_3 (by decide +kernel) ?_
        intro v123 h124
        refine q_icmp_gt 39 dX7_sortOfWord_5 (by decide) (fun h125 => ?_) (fun h125 => ?_)
        · skip
          exfalso; exact om_af5ebe16 h9 h122 h124 h125
        · skip
          refine tr_aload_n dX7_sortOfWord_8 rfl ?_
          refine q_getI dX7_sortOfWord_9 fl7_58 (kR7 hW0 ta0) c2 ?_
          refine q_iconst dX7_sortOfWord_12 (by decide) ?_
          intro v126 h127
          refine q_icmp_ne 33 dX7_sortOfWord_13 (by decide) (fun h128 => ?_) (fun h128 => ?_)
          · skip
            exfalso; exact om_b5fbe3a3 h14 h15 h127 h128
          · skip
            refine tr_aload_n dX7_sortOfWord_16 rfl ?_
            refine q_getLE dX7_sortOfWord_17 fl7_78 (kR7 hW0 ta0) c6 ?_
            refine tr_iload_n dX7_sortOfWord_20 rfl ?_
            refine q_callSs hE (M' := mX7_lineWord) (as := [_]) dX7_sortOfWord_21 lk7_152 inX7_lineWord myX7_lineWord ⟨by decide, by decide⟩ rfl (Nat.le_of_ble_eq_true rfl) rfl rfl (by decide) (by decide) (fk_X7_lineWord hW0  ) ?_
            rintro u134 cn' K' N' I129 R130 L131 ⟨rfl, rfl, rfl, rfl, rfl, rfl, tu134, rp135, -⟩
            obtain rfl : u134 = (11 : UInt32) := rp135.trans (by rw [show v121.toInt = 1 by exact om_cbd2c47e h9 h122]; decide +kernel)
            refine q_callSl hE (M' := mX7_packed) (as := [_]) dX7_sortOfWord_24 lk7_97 inX7_packed myX7_packed ⟨by decide, by decide⟩ rfl (Nat.le_of_ble_eq_true rfl) rfl rfl (by decide) (by decide) (f_X7_packed   (by decide)) ?_
            rintro y141 cn' K' N' I136 R137 L138 ⟨rfl, rfl, rfl, rfl, rfl, rfl, p142, -⟩
            (try rw [pk_11] at p142)
            refine q_lcmpNe 33 dX7_sortOfWord_27 dX7_sortOfWord_28 (by decide) (fun h143 => ?_) (fun h143 => ?_)
            · skip
              have nw144 : NeI (tkW gB gs) 5482267237 := fun q => h143 (by exact om_17f63464 p104 p142 q)
              clear h143
              refine q_iincE dX7_sortOfWord_33 rfl (by decide) (by decide) (by intro j1 j2; exact om_ffa31f14 h9 h122) ?_
              intro v145 h146
              refine tr_goto 2 dX7_sortOfWord_36 (by decide) ?_
              refine tr_iload_n dX7_sortOfWord_2 rfl ?_
              refine q_bipush dX7_sortOfWord_3 (by decide +kernel) ?_
              intro v147 h148
              refine q_icmp_gt 39 dX7_sortOfWord_5 (by decide) (fun h149 => ?_) (fun h149 => ?_)
              · skip
                exfalso; exact om_b783fc06 h9 h122 h146 h148 h149
              · skip
                refine tr_aload_n dX7_sortOfWord_8 rfl ?_
                refine q_getI dX7_sortOfWord_9 fl7_58 (kR7 hW0 ta0) c2 ?_
                refine q_iconst dX7_sortOfWord_12 (by decide) ?_
                intro v150 h151
                refine q_icmp_ne 33 dX7_sortOfWord_13 (by decide) (fun h152 => ?_) (fun h152 => ?_)
                · skip
                  exfalso; exact om_b5fbe3a3 h14 h15 h151 h152
                · skip
                  refine tr_aload_n dX7_sortOfWord_16 rfl ?_
                  refine q_getLE dX7_sortOfWord_17 fl7_78 (kR7 hW0 ta0) c6 ?_
                  refine tr_iload_n dX7_sortOfWord_20 rfl ?_
                  refine q_callSs hE (M' := mX7_lineWord) (as := [_]) dX7_sortOfWord_21 lk7_152 inX7_lineWord myX7_lineWord ⟨by decide, by decide⟩ rfl (Nat.le_of_ble_eq_true rfl) rfl rfl (by decide) (by decide) (fk_X7_lineWord hW0  ) ?_
                  rintro u158 cn' K' N' I153 R154 L155 ⟨rfl, rfl, rfl, rfl, rfl, rfl, tu158, rp159, -⟩
                  obtain rfl : u158 = (17 : UInt32) := rp159.trans (by rw [show v145.toInt = 2 by exact om_189faf6c h9 h122 h146]; decide +kernel)
                  refine q_callSl hE (M' := mX7_packed) (as := [_]) dX7_sortOfWord_24 lk7_97 inX7_packed myX7_packed ⟨by decide, by decide⟩ rfl (Nat.le_of_ble_eq_true rfl) rfl rfl (by decide) (by decide) (f_X7_packed   (by decide)) ?_
                  rintro y165 cn' K' N' I160 R161 L162 ⟨rfl, rfl, rfl, rfl, rfl, rfl, p166, -⟩
                  (try rw [pk_17] at p166)
                  refine q_lcmpNe 33 dX7_sortOfWord_27 dX7_sortOfWord_28 (by decide) (fun h167 => ?_) (fun h167 => ?_)
                  · skip
                    have nw168 : NeI (tkW gB gs) 394672 := fun q => h167 (by exact om_5eff7193 p104 p166 q)
                    clear h167
                    refine q_iincE dX7_sortOfWord_33 rfl (by decide) (by decide) (by intro j1 j2; exact om_c222afaf h9 h122 h146) ?_
                    intro v169 h170
                    refine tr_goto 2 dX7_sortOfWord_36 (by decide) ?_
                    refine tr_iload_n dX7_sortOfWord_2 rfl ?_
                    refine q_bipush dX7_sortOfWord_3 (by decide +kernel) ?_
                    intro v171 h172
                    refine q_icmp_gt 39 dX7_sortOfWord_5 (by decide) (fun h173 => ?_) (fun h173 => ?_)
                    · skip
                      exfalso; exact om_d9f92728 h9 h122 h146 h170 h172 h173
                    · skip
                      refine tr_aload_n dX7_sortOfWord_8 rfl ?_
                      refine q_getI dX7_sortOfWord_9 fl7_58 (kR7 hW0 ta0) c2 ?_
                      refine q_iconst dX7_sortOfWord_12 (by decide) ?_
                      intro v174 h175
                      refine q_icmp_ne 33 dX7_sortOfWord_13 (by decide) (fun h176 => ?_) (fun h176 => ?_)
                      · skip
                        exfalso; exact om_b5fbe3a3 h14 h15 h175 h176
                      · skip
                        refine tr_aload_n dX7_sortOfWord_16 rfl ?_
                        refine q_getLE dX7_sortOfWord_17 fl7_78 (kR7 hW0 ta0) c6 ?_
                        refine tr_iload_n dX7_sortOfWord_20 rfl ?_
                        refine q_callSs hE (M' := mX7_lineWord) (as := [_]) dX7_sortOfWord_21 lk7_152 inX7_lineWord myX7_lineWord ⟨by decide, by decide⟩ rfl (Nat.le_of_ble_eq_true rfl) rfl rfl (by decide) (by decide) (fk_X7_lineWord hW0  ) ?_
                        rintro u182 cn' K' N' I177 R178 L179 ⟨rfl, rfl, rfl, rfl, rfl, rfl, tu182, rp183, -⟩
                        obtain rfl : u182 = (22 : UInt32) := rp183.trans (by rw [show v169.toInt = 3 by exact om_f6ce22e7 h9 h122 h146 h170]; decide +kernel)
                        refine q_callSl hE (M' := mX7_packed) (as := [_]) dX7_sortOfWord_24 lk7_97 inX7_packed myX7_packed ⟨by decide, by decide⟩ rfl (Nat.le_of_ble_eq_true rfl) rfl rfl (by decide) (by decide) (f_X7_packed   (by decide)) ?_
                        rintro y189 cn' K' N' I184 R185 L186 ⟨rfl, rfl, rfl, rfl, rfl, rfl, p190, -⟩
                        (try rw [pk_22] at p190)
                        refine q_lcmpNe 33 dX7_sortOfWord_27 dX7_sortOfWord_28 (by decide) (fun h191 => ?_) (fun h191 => ?_)
                        · skip
                          have nw192 : NeI (tkW gB gs) 20692226226 := fun q => h191 (by exact om_a91943a8 p104 p190 q)
                          clear h191
                          refine q_iincE dX7_sortOfWord_33 rfl (by decide) (by decide) (by intro j1 j2; exact om_3ce631fb h9 h122 h146 h170) ?_
                          intro v193 h194
                          refine tr_goto 2 dX7_sortOfWord_36 (by decide) ?_
                          refine tr_iload_n dX7_sortOfWord_2 rfl ?_
                          refine q_bipush dX7_sortOfWord_3 (by decide +kernel) ?_
                          intro v195 h196
                          refine q_icmp_gt 39 dX7_sortOfWord_5 (by decide) (fun h197 => ?_) (fun h197 => ?_)
                          · skip
                            exfalso; exact om_de00222c h9 h122 h146 h170 h194 h196 h197
                          · skip
                            refine tr_aload_n dX7_sortOfWord_8 rfl ?_
                            refine q_getI dX7_sortOfWord_9 fl7_58 (kR7 hW0 ta0) c2 ?_
                            refine q_iconst dX7_sortOfWord_12 (by decide) ?_
                            intro v198 h199
                            refine q_icmp_ne 33 dX7_sortOfWord_13 (by decide) (fun h200 => ?_) (fun h200 => ?_)
                            · skip
                              exfalso; exact om_b5fbe3a3 h14 h15 h199 h200
                            · skip
                              refine tr_aload_n dX7_sortOfWord_16 rfl ?_
                              refine q_getLE dX7_sortOfWord_17 fl7_78 (kR7 hW0 ta0) c6 ?_
                              refine tr_iload_n dX7_sortOfWord_20 rfl ?_
                              refine q_callSs hE (M' := mX7_lineWord) (as := [_]) dX7_sortOfWord_21 lk7_152 inX7_lineWord myX7_lineWord ⟨by decide, by decide⟩ rfl (Nat.le_of_ble_eq_true rfl) rfl rfl (by decide) (by decide) (fk_X7_lineWord hW0  ) ?_
                              rintro u206 cn' K' N' I201 R202 L203 ⟨rfl, rfl, rfl, rfl, rfl, rfl, tu206, rp207, -⟩
                              obtain rfl : u206 = (4 : UInt32) := rp207.trans (by rw [show v193.toInt = 4 by exact om_ac10eed4 h9 h122 h146 h170 h194]; decide +kernel)
                              refine q_callSl hE (M' := mX7_packed) (as := [_]) dX7_sortOfWord_24 lk7_97 inX7_packed myX7_packed ⟨by decide, by decide⟩ rfl (Nat.le_of_ble_eq_true rfl) rfl rfl (by decide) (by decide) (f_X7_packed   (by decide)) ?_
                              rintro y213 cn' K' N' I208 R209 L210 ⟨rfl, rfl, rfl, rfl, rfl, rfl, p214, -⟩
                              (try rw [pk_4] at p214)
                              refine q_lcmpNe 33 dX7_sortOfWord_27 dX7_sortOfWord_28 (by decide) (fun h215 => ?_) (fun h215 => ?_)
                              · skip
                                have nw216 : NeI (tkW gB gs) 81300 := fun q => h215 (by exact om_7b6e02d8 p104 p214 q)
                                clear h215
                                refine q_iincE dX7_sortOfWord_33 rfl (by decide) (by decide) (by intro j1 j2; exact om_32d85275 h9 h122 h146 h170 h194) ?_
                                intro v217 h218
                                refine tr_goto 2 dX7_sortOfWord_36 (by decide) ?_
                                refine tr_iload_n dX7_sortOfWord_2 rfl ?_
                                refine q_bipush dX7_sortOfWord_3 (by decide +kernel) ?_
                                intro v219 h220
                                refine q_icmp_gt 39 dX7_sortOfWord_5 (by decide) (fun h221 => ?_) (fun h221 => ?_)
                                · skip
                                  exfalso; exact om_cab3f94e h9 h122 h146 h170 h194 h218 h220 h221
                                · skip
                                  refine tr_aload_n dX7_sortOfWord_8 rfl ?_
                                  refine q_getI dX7_sortOfWord_9 fl7_58 (kR7 hW0 ta0) c2 ?_
                                  refine q_iconst dX7_sortOfWord_12 (by decide) ?_
                                  intro v222 h223
                                  refine q_icmp_ne 33 dX7_sortOfWord_13 (by decide) (fun h224 => ?_) (fun h224 => ?_)
                                  · skip
                                    exfalso; exact om_b5fbe3a3 h14 h15 h223 h224
                                  · skip
                                    refine tr_aload_n dX7_sortOfWord_16 rfl ?_
                                    refine q_getLE dX7_sortOfWord_17 fl7_78 (kR7 hW0 ta0) c6 ?_
                                    refine tr_iload_n dX7_sortOfWord_20 rfl ?_
                                    refine q_callSs hE (M' := mX7_lineWord) (as := [_]) dX7_sortOfWord_21 lk7_152 inX7_lineWord myX7_lineWord ⟨by decide, by decide⟩ rfl (Nat.le_of_ble_eq_true rfl) rfl rfl (by decide) (by decide) (fk_X7_lineWord hW0  ) ?_
                                    rintro u230 cn' K' N' I225 R226 L227 ⟨rfl, rfl, rfl, rfl, rfl, rfl, tu230, rp231, -⟩
                                    obtain rfl : u230 = (6 : UInt32) := rp231.trans (by rw [show v217.toInt = 5 by exact om_f919f1b6 h9 h122 h146 h170 h194 h218]; decide +kernel)
                                    refine q_callSl hE (M' := mX7_packed) (as := [_]) dX7_sortOfWord_24 lk7_97 inX7_packed myX7_packed ⟨by decide, by decide⟩ rfl (Nat.le_of_ble_eq_true rfl) rfl rfl (by decide) (by decide) (f_X7_packed   (by decide)) ?_
                                    rintro y237 cn' K' N' I232 R233 L234 ⟨rfl, rfl, rfl, rfl, rfl, rfl, p238, -⟩
                                    (try rw [pk_6] at p238)
                                    refine q_lcmpNe 33 dX7_sortOfWord_27 dX7_sortOfWord_28 (by decide) (fun h239 => ?_) (fun h239 => ?_)
                                    · skip
                                      have nw240 : NeI (tkW gB gs) 109221477 := fun q => h239 (by exact om_39a639dd p104 p238 q)
                                      clear h239
                                      refine q_iincE dX7_sortOfWord_33 rfl (by decide) (by decide) (by intro j1 j2; exact om_d2b52aae h9 h122 h146 h170 h194 h218) ?_
                                      intro v241 h242
                                      refine tr_goto 2 dX7_sortOfWord_36 (by decide) ?_
                                      refine tr_iload_n dX7_sortOfWord_2 rfl ?_
                                      refine q_bipush dX7_sortOfWord_3 (by decide +kernel) ?_
                                      intro v243 h244
                                      refine q_icmp_gt 39 dX7_sortOfWord_5 (by decide) (fun h245 => ?_) (fun h245 => ?_)
                                      · skip
                                        exfalso; exact om_51264b20 h9 h122 h146 h170 h194 h218 h242 h244 h245
                                      · skip
                                        refine tr_aload_n dX7_sortOfWord_8 rfl ?_
                                        refine q_getI dX7_sortOfWord_9 fl7_58 (kR7 hW0 ta0) c2 ?_
                                        refine q_iconst dX7_sortOfWord_12 (by decide) ?_
                                        intro v246 h247
                                        refine q_icmp_ne 33 dX7_sortOfWord_13 (by decide) (fun h248 => ?_) (fun h248 => ?_)
                                        · skip
                                          exfalso; exact om_b5fbe3a3 h14 h15 h247 h248
                                        · skip
                                          refine tr_aload_n dX7_sortOfWord_16 rfl ?_
                                          refine q_getLE dX7_sortOfWord_17 fl7_78 (kR7 hW0 ta0) c6 ?_
                                          refine tr_iload_n dX7_sortOfWord_20 rfl ?_
                                          refine q_callSs hE (M' := mX7_lineWord) (as := [_]) dX7_sortOfWord_21 lk7_152 inX7_lineWord myX7_lineWord ⟨by decide, by decide⟩ rfl (Nat.le_of_ble_eq_true rfl) rfl rfl (by decide) (by decide) (fk_X7_lineWord hW0  ) ?_
                                          rintro u254 cn' K' N' I249 R250 L251 ⟨rfl, rfl, rfl, rfl, rfl, rfl, tu254, rp255, -⟩
                                          obtain rfl : u254 = (0 : UInt32) := rp255.trans (by rw [show v241.toInt = 6 by exact om_0c25629a h9 h122 h146 h170 h194 h218 h242]; decide +kernel)
                                          refine q_callSl hE (M' := mX7_packed) (as := [_]) dX7_sortOfWord_24 lk7_97 inX7_packed myX7_packed ⟨by decide, by decide⟩ rfl (Nat.le_of_ble_eq_true rfl) rfl rfl (by decide) (by decide) (f_X7_packed   (by decide)) ?_
                                          rintro y261 cn' K' N' I256 R257 L258 ⟨rfl, rfl, rfl, rfl, rfl, rfl, p262, -⟩
                                          (try rw [pk_0] at p262)
                                          refine q_lcmpNe 33 dX7_sortOfWord_27 dX7_sortOfWord_28 (by decide) (fun h263 => ?_) (fun h263 => ?_)
                                          · skip
                                            have nw264 : NeI (tkW gB gs) 1490073635 := fun q => h263 (by exact om_4249dc02 p104 p262 q)
                                            clear h263
                                            refine q_iincE dX7_sortOfWord_33 rfl (by decide) (by decide) (by intro j1 j2; exact om_4726b73e h9 h122 h146 h170 h194 h218 h242) ?_
                                            intro v265 h266
                                            refine tr_goto 2 dX7_sortOfWord_36 (by decide) ?_
                                            refine tr_iload_n dX7_sortOfWord_2 rfl ?_
                                            refine q_bipush dX7_sortOfWord_3 (by decide +kernel) ?_
                                            intro v267 h268
                                            refine q_icmp_gt 39 dX7_sortOfWord_5 (by decide) (fun h269 => ?_) (fun h269 => ?_)
                                            · skip
                                              exfalso; exact om_dff351a4 h9 h122 h146 h170 h194 h218 h242 h266 h268 h269
                                            · skip
                                              refine tr_aload_n dX7_sortOfWord_8 rfl ?_
                                              refine q_getI dX7_sortOfWord_9 fl7_58 (kR7 hW0 ta0) c2 ?_
                                              refine q_iconst dX7_sortOfWord_12 (by decide) ?_
                                              intro v270 h271
                                              refine q_icmp_ne 33 dX7_sortOfWord_13 (by decide) (fun h272 => ?_) (fun h272 => ?_)
                                              · skip
                                                exfalso; exact om_b5fbe3a3 h14 h15 h271 h272
                                              · skip
                                                refine tr_aload_n dX7_sortOfWord_16 rfl ?_
                                                refine q_getLE dX7_sortOfWord_17 fl7_78 (kR7 hW0 ta0) c6 ?_
                                                refine tr_iload_n dX7_sortOfWord_20 rfl ?_
                                                refine q_callSs hE (M' := mX7_lineWord) (as := [_]) dX7_sortOfWord_21 lk7_152 inX7_lineWord myX7_lineWord ⟨by decide, by decide⟩ rfl (Nat.le_of_ble_eq_true rfl) rfl rfl (by decide) (by decide) (fk_X7_lineWord hW0  ) ?_
                                                rintro u278 cn' K' N' I273 R274 L275 ⟨rfl, rfl, rfl, rfl, rfl, rfl, tu278, rp279, -⟩
                                                obtain rfl : u278 = (26 : UInt32) := rp279.trans (by rw [show v265.toInt = 7 by exact om_91ec229b h9 h122 h146 h170 h194 h218 h242 h266]; decide +kernel)
                                                refine q_callSl hE (M' := mX7_packed) (as := [_]) dX7_sortOfWord_24 lk7_97 inX7_packed myX7_packed ⟨by decide, by decide⟩ rfl (Nat.le_of_ble_eq_true rfl) rfl rfl (by decide) (by decide) (f_X7_packed   (by decide)) ?_
                                                rintro y285 cn' K' N' I280 R281 L282 ⟨rfl, rfl, rfl, rfl, rfl, rfl, p286, -⟩
                                                (try rw [pk_26] at p286)
                                                refine q_lcmpNe 33 dX7_sortOfWord_27 dX7_sortOfWord_28 (by decide) (fun h287 => ?_) (fun h287 => ?_)
                                                · skip
                                                  have nw288 : NeI (tkW gB gs) 693713074 := fun q => h287 (by exact om_59e1a5b0 p104 p286 q)
                                                  clear h287
                                                  refine q_iincE dX7_sortOfWord_33 rfl (by decide) (by decide) (by intro j1 j2; exact om_022b56b1 h9 h122 h146 h170 h194 h218 h242 h266) ?_
                                                  intro v289 h290
                                                  refine tr_goto 2 dX7_sortOfWord_36 (by decide) ?_
                                                  refine tr_iload_n dX7_sortOfWord_2 rfl ?_
                                                  refine q_bipush dX7_sortOfWord_3 (by decide +kernel) ?_
                                                  intro v291 h292
                                                  refine q_icmp_gt 39 dX7_sortOfWord_5 (by decide) (fun h293 => ?_) (fun h293 => ?_)
                                                  · skip
                                                    exfalso; exact om_f4464e29 h9 h122 h146 h170 h194 h218 h242 h266 h290 h292 h293
                                                  · skip
                                                    refine tr_aload_n dX7_sortOfWord_8 rfl ?_
                                                    refine q_getI dX7_sortOfWord_9 fl7_58 (kR7 hW0 ta0) c2 ?_
                                                    refine q_iconst dX7_sortOfWord_12 (by decide) ?_
                                                    intro v294 h295
                                                    refine q_icmp_ne 33 dX7_sortOfWord_13 (by decide) (fun h296 => ?_) (fun h296 => ?_)
                                                    · skip
                                                      exfalso; exact om_b5fbe3a3 h14 h15 h295 h296
                                                    · skip
                                                      refine tr_aload_n dX7_sortOfWord_16 rfl ?_
                                                      refine q_getLE dX7_sortOfWord_17 fl7_78 (kR7 hW0 ta0) c6 ?_
                                                      refine tr_iload_n dX7_sortOfWord_20 rfl ?_
                                                      refine q_callSs hE (M' := mX7_lineWord) (as := [_]) dX7_sortOfWord_21 lk7_152 inX7_lineWord myX7_lineWord ⟨by decide, by decide⟩ rfl (Nat.le_of_ble_eq_true rfl) rfl rfl (by decide) (by decide) (fk_X7_lineWord hW0  ) ?_
                                                      rintro u302 cn' K' N' I297 R298 L299 ⟨rfl, rfl, rfl, rfl, rfl, rfl, tu302, rp303, -⟩
                                                      obtain rfl : u302 = (5 : UInt32) := rp303.trans (by rw [show v289.toInt = 8 by exact om_87eaab17 h9 h122 h146 h170 h194 h218 h242 h266 h290]; decide +kernel)
                                                      refine q_callSl hE (M' := mX7_packed) (as := [_]) dX7_sortOfWord_24 lk7_97 inX7_packed myX7_packed ⟨by decide, by decide⟩ rfl (Nat.le_of_ble_eq_true rfl) rfl rfl (by decide) (by decide) (f_X7_packed   (by decide)) ?_
                                                      rintro y309 cn' K' N' I304 R305 L306 ⟨rfl, rfl, rfl, rfl, rfl, rfl, p310, -⟩
                                                      (try rw [pk_5] at p310)
                                                      refine q_lcmpNe 33 dX7_sortOfWord_27 dX7_sortOfWord_28 (by decide) (fun h311 => ?_) (fun h311 => ?_)
                                                      · skip
                                                        have nw312 : NeI (tkW gB gs) 99724 := fun q => h311 (by exact om_3a19c3ef p104 p310 q)
                                                        clear h311
                                                        refine q_iincE dX7_sortOfWord_33 rfl (by decide) (by decide) (by intro j1 j2; exact om_30f136aa h9 h122 h146 h170 h194 h218 h242 h266 h290) ?_
                                                        intro v313 h314
                                                        refine tr_goto 2 dX7_sortOfWord_36 (by decide) ?_
                                                        refine tr_iload_n dX7_sortOfWord_2 rfl ?_
                                                        refine q_bipush dX7_sortOfWord_3 (by decide +kernel) ?_
                                                        intro v315 h316
                                                        refine q_icmp_gt 39 dX7_sortOfWord_5 (by decide) (fun h317 => ?_) (fun h317 => ?_)
                                                        · skip
                                                          exfalso; exact om_5ec536e6 h9 h122 h146 h170 h194 h218 h242 h266 h290 h314 h316 h317
                                                        · skip
                                                          refine tr_aload_n dX7_sortOfWord_8 rfl ?_
                                                          refine q_getI dX7_sortOfWord_9 fl7_58 (kR7 hW0 ta0) c2 ?_
                                                          refine q_iconst dX7_sortOfWord_12 (by decide) ?_
                                                          intro v318 h319
                                                          refine q_icmp_ne 33 dX7_sortOfWord_13 (by decide) (fun h320 => ?_) (fun h320 => ?_)
                                                          · skip
                                                            exfalso; exact om_b5fbe3a3 h14 h15 h319 h320
                                                          · skip
                                                            refine tr_aload_n dX7_sortOfWord_16 rfl ?_
                                                            refine q_getLE dX7_sortOfWord_17 fl7_78 (kR7 hW0 ta0) c6 ?_
                                                            refine tr_iload_n dX7_sortOfWord_20 rfl ?_
                                                            refine q_callSs hE (M' := mX7_lineWord) (as := [_]) dX7_sortOfWord_21 lk7_152 inX7_lineWord myX7_lineWord ⟨by decide, by decide⟩ rfl (Nat.le_of_ble_eq_true rfl) rfl rfl (by decide) (by decide) (fk_X7_lineWord hW0  ) ?_
                                                            rintro u326 cn' K' N' I321 R322 L323 ⟨rfl, rfl, rfl, rfl, rfl, rfl, tu326, rp327, -⟩
                                                            obtain rfl : u326 = (23 : UInt32) := rp327.trans (by rw [show v313.toInt = 9 by exact om_9862e732 h9 h122 h146 h170 h194 h218 h242 h266 h290 h314]; decide +kernel)
                                                            refine q_callSl hE (M' := mX7_packed) (as := [_]) dX7_sortOfWord_24 lk7_97 inX7_packed myX7_packed ⟨by decide, by decide⟩ rfl (Nat.le_of_ble_eq_true rfl) rfl rfl (by decide) (by decide) (f_X7_packed   (by decide)) ?_
                                                            rintro y333 cn' K' N' I328 R329 L330 ⟨rfl, rfl, rfl, rfl, rfl, rfl, p334, -⟩
                                                            (try rw [pk_23] at p334)
                                                            refine q_lcmpNe 33 dX7_sortOfWord_27 dX7_sortOfWord_28 (by decide) (fun h335 => ?_) (fun h335 => ?_)
                                                            · skip
                                                              have nw336 : NeI (tkW gB gs) 20325477 := fun q => h335 (by exact om_a3059809 p104 p334 q)
                                                              clear h335
                                                              refine q_iincE dX7_sortOfWord_33 rfl (by decide) (by decide) (by intro j1 j2; exact om_e15732c6 h9 h122 h146 h170 h194 h218 h242 h266 h290 h314) ?_
                                                              intro v337 h338
                                                              refine tr_goto 2 dX7_sortOfWord_36 (by decide) ?_
                                                              refine tr_iload_n dX7_sortOfWord_2 rfl ?_
                                                              refine q_bipush dX7_sortOfWord_3 (by decide +kernel) ?_
                                                              intro v339 h340
                                                              refine q_icmp_gt 39 dX7_sortOfWord_5 (by decide) (fun h341 => ?_) (fun h341 => ?_)
                                                              · skip
                                                                exfalso; exact om_8357c0fc h9 h122 h146 h170 h194 h218 h242 h266 h290 h314 h338 h340 h341
                                                              · skip
                                                                refine tr_aload_n dX7_sortOfWord_8 rfl ?_
                                                                refine q_getI dX7_sortOfWord_9 fl7_58 (kR7 hW0 ta0) c2 ?_
                                                                refine q_iconst dX7_sortOfWord_12 (by decide) ?_
                                                                intro v342 h343
                                                                refine q_icmp_ne 33 dX7_sortOfWord_13 (by decide) (fun h344 => ?_) (fun h344 => ?_)
                                                                · skip
                                                                  exfalso; exact om_b5fbe3a3 h14 h15 h343 h344
                                                                · skip
                                                                  refine tr_aload_n dX7_sortOfWord_16 rfl ?_
                                                                  refine q_getLE dX7_sortOfWord_17 fl7_78 (kR7 hW0 ta0) c6 ?_
                                                                  refine tr_iload_n dX7_sortOfWord_20 rfl ?_
                                                                  refine q_callSs hE (M' := mX7_lineWord) (as := [_]) dX7_sortOfWord_21 lk7_152 inX7_lineWord myX7_lineWord ⟨by decide, by decide⟩ rfl (Nat.le_of_ble_eq_true rfl) rfl rfl (by decide) (by decide) (fk_X7_lineWord hW0  ) ?_
                                                                  rintro u350 cn' K' N' I345 R346 L347 ⟨rfl, rfl, rfl, rfl, rfl, rfl, tu350, rp351, -⟩
                                                                  obtain rfl : u350 = (1 : UInt32) := rp351.trans (by rw [show v337.toInt = 10 by exact om_d3224a25 h9 h122 h146 h170 h194 h218 h242 h266 h290 h314 h338]; decide +kernel)
                                                                  refine q_callSl hE (M' := mX7_packed) (as := [_]) dX7_sortOfWord_24 lk7_97 inX7_packed myX7_packed ⟨by decide, by decide⟩ rfl (Nat.le_of_ble_eq_true rfl) rfl rfl (by decide) (by decide) (f_X7_packed   (by decide)) ?_
                                                                  rintro y357 cn' K' N' I352 R353 L354 ⟨rfl, rfl, rfl, rfl, rfl, rfl, p358, -⟩
                                                                  (try rw [pk_1] at p358)
                                                                  refine q_lcmpNe 33 dX7_sortOfWord_27 dX7_sortOfWord_28 (by decide) (fun h359 => ?_) (fun h359 => ?_)
                                                                  · skip
                                                                    have nw360 : NeI (tkW gB gs) 1424 := fun q => h359 (by exact om_fc3e9215 p104 p358 q)
                                                                    clear h359
                                                                    refine q_iincE dX7_sortOfWord_33 rfl (by decide) (by decide) (by intro j1 j2; exact om_3cf4c280 h9 h122 h146 h170 h194 h218 h242 h266 h290 h314 h338) ?_
                                                                    intro v361 h362
                                                                    refine tr_goto 2 dX7_sortOfWord_36 (by decide) ?_
                                                                    refine tr_iload_n dX7_sortOfWord_2 rfl ?_
                                                                    refine q_bipush dX7_sortOfWord_3 (by decide +kernel) ?_
                                                                    intro v363 h364
                                                                    refine q_icmp_gt 39 dX7_sortOfWord_5 (by decide) (fun h365 => ?_) (fun h365 => ?_)
                                                                    · skip
                                                                      refine q_iconst dX7_sortOfWord_39 (by decide) ?_
                                                                      intro v366 h367
                                                                      have sr368 : srt gB gs = -1 := srt_no nw120 nw144 nw168 nw192 nw216 nw240 nw264 nw288 nw312 nw336 nw360
                                                                      exact tr_iret hZ dX7_sortOfWord_40 rfl (by decide) (by decide) ⟨v366, rfl, rfl, rfl, rfl, rfl, rfl, rfl, (by exact om_e48a2dce h367), (by first | done | with_reducible assumption | exact om_357b0e22 h367 sr368), trivial⟩
                                                                    · skip
                                                                      exfalso; exact om_a571815b h9 h122 h146 h170 h194 h218 h242 h266 h290 h314 h338 h362 h364 h365
                                                                  · skip
                                                                    refine tr_iload_n dX7_sortOfWord_31 rfl ?_
                                                                    have sr369 : srt gB gs = 10 := srt_10 (by exact om_94131590 p4 h14 h15) (by exact om_ee6a0282 p104 p358 h359)
                                                                    exact tr_iret hZ dX7_sortOfWord_32 rfl (by decide) (by decide) ⟨v337, rfl, rfl, rfl, rfl, rfl, rfl, rfl, (by exact om_99c0b509 h9 h122 h146 h170 h194 h218 h242 h266 h290 h314 h338), (by first | done | with_reducible assumption | exact om_61bd392c h9 h122 h146 h170 h194 h218 h242 h266 h290 h314 h338 sr369), trivial⟩
                                                            · skip
                                                              refine tr_iload_n dX7_sortOfWord_31 rfl ?_
                                                              have sr370 : srt gB gs = 9 := srt_9 (by exact om_94131590 p4 h14 h15) (by exact om_a4caa089 p104 p334 h335)
                                                              exact tr_iret hZ dX7_sortOfWord_32 rfl (by decide) (by decide) ⟨v313, rfl, rfl, rfl, rfl, rfl, rfl, rfl, (by exact om_0175af96 h9 h122 h146 h170 h194 h218 h242 h266 h290 h314), (by first | done | with_reducible assumption | exact om_dfe853be h9 h122 h146 h170 h194 h218 h242 h266 h290 h314 sr370), trivial⟩
                                                      · skip
                                                        refine tr_iload_n dX7_sortOfWord_31 rfl ?_
                                                        have sr371 : srt gB gs = 8 := srt_8 (by exact om_94131590 p4 h14 h15) (by exact om_2d9424ba p104 p310 h311)
                                                        exact tr_iret hZ dX7_sortOfWord_32 rfl (by decide) (by decide) ⟨v289, rfl, rfl, rfl, rfl, rfl, rfl, rfl, (by exact om_23482034 h9 h122 h146 h170 h194 h218 h242 h266 h290), (by first | done | with_reducible assumption | exact om_4126b518 h9 h122 h146 h170 h194 h218 h242 h266 h290 sr371), trivial⟩
                                                · skip
                                                  refine tr_iload_n dX7_sortOfWord_31 rfl ?_
                                                  have sr372 : srt gB gs = 7 := srt_7 (by exact om_94131590 p4 h14 h15) (by exact om_f9fb3d65 p104 p286 h287)
                                                  exact tr_iret hZ dX7_sortOfWord_32 rfl (by decide) (by decide) ⟨v265, rfl, rfl, rfl, rfl, rfl, rfl, rfl, (by exact om_9b9ced4e h9 h122 h146 h170 h194 h218 h242 h266), (by first | done | with_reducible assumption | exact om_bb503b6c h9 h122 h146 h170 h194 h218 h242 h266 sr372), trivial⟩
                                          · skip
                                            refine tr_iload_n dX7_sortOfWord_31 rfl ?_
                                            have sr373 : srt gB gs = 6 := srt_6 (by exact om_94131590 p4 h14 h15) (by exact om_d2f861be p104 p262 h263)
                                            exact tr_iret hZ dX7_sortOfWord_32 rfl (by decide) (by decide) ⟨v241, rfl, rfl, rfl, rfl, rfl, rfl, rfl, (by exact om_93198450 h9 h122 h146 h170 h194 h218 h242), (by first | done | with_reducible assumption | exact om_d61253be h9 h122 h146 h170 h194 h218 h242 sr373), trivial⟩
                                    · skip
                                      refine tr_iload_n dX7_sortOfWord_31 rfl ?_
                                      have sr374 : srt gB gs = 5 := srt_5 (by exact om_94131590 p4 h14 h15) (by exact om_edbd2ed2 p104 p238 h239)
                                      exact tr_iret hZ dX7_sortOfWord_32 rfl (by decide) (by decide) ⟨v217, rfl, rfl, rfl, rfl, rfl, rfl, rfl, (by exact om_54dd6fda h9 h122 h146 h170 h194 h218), (by first | done | with_reducible assumption | exact om_7fcd88a1 h9 h122 h146 h170 h194 h218 sr374), trivial⟩
                              · skip
                                refine tr_iload_n dX7_sortOfWord_31 rfl ?_
                                have sr375 : srt gB gs = 4 := srt_4 (by exact om_94131590 p4 h14 h15) (by exact om_511161fb p104 p214 h215)
                                exact tr_iret hZ dX7_sortOfWord_32 rfl (by decide) (by decide) ⟨v193, rfl, rfl, rfl, rfl, rfl, rfl, rfl, (by exact om_20da7595 h9 h122 h146 h170 h194), (by first | done | with_reducible assumption | exact om_90c9c0d5 h9 h122 h146 h170 h194 sr375), trivial⟩
                        · skip
                          refine tr_iload_n dX7_sortOfWord_31 rfl ?_
                          have sr376 : srt gB gs = 3 := srt_3 (by exact om_94131590 p4 h14 h15) (by exact om_e50ade4b p104 p190 h191)
                          exact tr_iret hZ dX7_sortOfWord_32 rfl (by decide) (by decide) ⟨v169, rfl, rfl, rfl, rfl, rfl, rfl, rfl, (by exact om_62e5d5ac h9 h122 h146 h170), (by first | done | with_reducible assumption | exact om_1bda46d2 h9 h122 h146 h170 sr376), trivial⟩
                  · skip
                    refine tr_iload_n dX7_sortOfWord_31 rfl ?_
                    have sr377 : srt gB gs = 2 := srt_2 (by exact om_94131590 p4 h14 h15) (by exact om_59b959e0 p104 p166 h167)
                    exact tr_iret hZ dX7_sortOfWord_32 rfl (by decide) (by decide) ⟨v145, rfl, rfl, rfl, rfl, rfl, rfl, rfl, (by exact om_1a224aee h9 h122 h146), (by first | done | with_reducible assumption | exact om_0a2a7aef h9 h122 h146 sr377), trivial⟩
            · skip
              refine tr_iload_n dX7_sortOfWord_31 rfl ?_
              have sr378 : srt gB gs = 1 := srt_1 (by exact om_94131590 p4 h14 h15) (by exact om_f63e4793 p104 p142 h143)
              exact tr_iret hZ dX7_sortOfWord_32 rfl (by decide) (by decide) ⟨v121, rfl, rfl, rfl, rfl, rfl, rfl, rfl, (by exact om_75746cf6 h9 h122), (by first | done | with_reducible assumption | exact om_d7f0926e h9 h122 sr378), trivial⟩
      · skip
        refine tr_iload_n dX7_sortOfWord_31 rfl ?_
        have sr379 : srt gB gs = 0 := srt_0 (by exact om_94131590 p4 h14 h15) (by exact om_a38ea4a5 p104 p118 h119)
        exact tr_iret hZ dX7_sortOfWord_32 rfl (by decide) (by decide) ⟨v8, rfl, rfl, rfl, rfl, rfl, rfl, rfl, (by exact om_23f77e1b h9), (by first | done | with_reducible assumption | exact om_5bac22bd h9 sr379), trivial⟩
