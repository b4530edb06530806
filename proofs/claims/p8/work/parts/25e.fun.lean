set_option maxHeartbeats 4000000 in
theorem fk_X7_lineWord {l : Launch} {T : Nat → Nat} {cn : Nat} {K N : Nat → Nat} {I0 : cz_I} {R0 : cz_R} {L0 : cz_L} {d : Int} (hW0 : Wf T cn K N I0 R0 d)  {x0 : Int32} : ConE l mX7_lineWord [.int x0] cn K N I0 R0 L0 (ca_s (fun v cn' K' N' I' R' L' => cn = cn' ∧ K = K' ∧ N = N' ∧ I0 = I' ∧ R0 = R' ∧ L0 = L' ∧ v.toNat < cz_NS ∧ (v = lwU x0.toInt) ∧ True)) := by
  refine ConE.of (by decide +kernel) rfl (Nat.le_of_ble_eq_true rfl) rfl (fun X hX hZ hE => ?_)
  subst hX
  refine tr_iload_n dX7_lineWord_0 rfl ?_
  by_cases h1 : x0.toInt = 0
  · skip
    refine tr_tabIn (off := 55) 56 dX7_lineWord_1 (by omega) (by omega) (by rw [h1]; decide +kernel) (by decide) ?_
    refine tr_ldcS dX7_lineWord_56 ld7_131 ?_
    exact tr_aretS hZ dX7_lineWord_58 rfl (by decide) (by decide) ⟨(7 : UInt32), rfl, rfl, rfl, rfl, rfl, rfl, rfl, (by decide), (by unfold lwU; repeat' (first | rfl | (exfalso; omega) | split)), trivial⟩
  · skip
    by_cases h2 : x0.toInt = 1
    · skip
      refine tr_tabIn (off := 58) 59 dX7_lineWord_1 (by omega) (by omega) (by rw [h2]; decide +kernel) (by decide) ?_
      refine tr_ldcS dX7_lineWord_59 ld7_133 ?_
      exact tr_aretS hZ dX7_lineWord_61 rfl (by decide) (by decide) ⟨(11 : UInt32), rfl, rfl, rfl, rfl, rfl, rfl, rfl, (by decide), (by unfold lwU; repeat' (first | rfl | (exfalso; omega) | split)), trivial⟩
    · skip
      by_cases h3 : x0.toInt = 2
      · skip
        refine tr_tabIn (off := 61) 62 dX7_lineWord_1 (by omega) (by omega) (by rw [h3]; decide +kernel) (by decide) ?_
        refine tr_ldcS dX7_lineWord_62 ld7_135 ?_
        exact tr_aretS hZ dX7_lineWord_64 rfl (by decide) (by decide) ⟨(17 : UInt32), rfl, rfl, rfl, rfl, rfl, rfl, rfl, (by decide), (by unfold lwU; repeat' (first | rfl | (exfalso; omega) | split)), trivial⟩
      · skip
        by_cases h4 : x0.toInt = 3
        · skip
          refine tr_tabIn (off := 64) 65 dX7_lineWord_1 (by omega) (by omega) (by rw [h4]; decide +kernel) (by decide) ?_
          refine tr_ldcS dX7_lineWord_65 ld7_137 ?_
          exact tr_aretS hZ dX7_lineWord_67 rfl (by decide) (by decide) ⟨(22 : UInt32), rfl, rfl, rfl, rfl, rfl, rfl, rfl, (by decide), (by unfold lwU; repeat' (first | rfl | (exfalso; omega) | split)), trivial⟩
        · skip
          by_cases h5 : x0.toInt = 4
          · skip
            refine tr_tabIn (off := 67) 68 dX7_lineWord_1 (by omega) (by omega) (by rw [h5]; decide +kernel) (by decide) ?_
            refine tr_ldcS dX7_lineWord_68 ld7_139 ?_
            exact tr_aretS hZ dX7_lineWord_70 rfl (by decide) (by decide) ⟨(4 : UInt32), rfl, rfl, rfl, rfl, rfl, rfl, rfl, (by decide), (by unfold lwU; repeat' (first | rfl | (exfalso; omega) | split)), trivial⟩
          · skip
            by_cases h6 : x0.toInt = 5
            · skip
              refine tr_tabIn (off := 70) 71 dX7_lineWord_1 (by omega) (by omega) (by rw [h6]; decide +kernel) (by decide) ?_
              refine tr_ldcS dX7_lineWord_71 ld7_141 ?_
              exact tr_aretS hZ dX7_lineWord_73 rfl (by decide) (by decide) ⟨(6 : UInt32), rfl, rfl, rfl, rfl, rfl, rfl, rfl, (by decide), (by unfold lwU; repeat' (first | rfl | (exfalso; omega) | split)), trivial⟩
            · skip
              by_cases h7 : x0.toInt = 6
              · skip
                refine tr_tabIn (off := 73) 74 dX7_lineWord_1 (by omega) (by omega) (by rw [h7]; decide +kernel) (by decide) ?_
                refine tr_ldcS dX7_lineWord_74 ld7_143 ?_
                exact tr_aretS hZ dX7_lineWord_76 rfl (by decide) (by decide) ⟨(0 : UInt32), rfl, rfl, rfl, rfl, rfl, rfl, rfl, (by decide), (by unfold lwU; repeat' (first | rfl | (exfalso; omega) | split)), trivial⟩
              · skip
                by_cases h8 : x0.toInt = 7
                · skip
                  refine tr_tabIn (off := 76) 77 dX7_lineWord_1 (by omega) (by omega) (by rw [h8]; decide +kernel) (by decide) ?_
                  refine tr_ldcS dX7_lineWord_77 ld7_145 ?_
                  exact tr_aretS hZ dX7_lineWord_79 rfl (by decide) (by decide) ⟨(26 : UInt32), rfl, rfl, rfl, rfl, rfl, rfl, rfl, (by decide), (by unfold lwU; repeat' (first | rfl | (exfalso; omega) | split)), trivial⟩
                · skip
                  by_cases h9 : x0.toInt = 8
                  · skip
                    refine tr_tabIn (off := 79) 80 dX7_lineWord_1 (by omega) (by omega) (by rw [h9]; decide +kernel) (by decide) ?_
                    refine tr_ldcS dX7_lineWord_80 ld7_147 ?_
                    exact tr_aretS hZ dX7_lineWord_82 rfl (by decide) (by decide) ⟨(5 : UInt32), rfl, rfl, rfl, rfl, rfl, rfl, rfl, (by decide), (by unfold lwU; repeat' (first | rfl | (exfalso; omega) | split)), trivial⟩
                  · skip
                    by_cases h10 : x0.toInt = 9
                    · skip
                      refine tr_tabIn (off := 82) 83 dX7_lineWord_1 (by omega) (by omega) (by rw [h10]; decide +kernel) (by decide) ?_
                      refine tr_ldcS dX7_lineWord_83 ld7_149 ?_
                      exact tr_aretS hZ dX7_lineWord_85 rfl (by decide) (by decide) ⟨(23 : UInt32), rfl, rfl, rfl, rfl, rfl, rfl, rfl, (by decide), (by unfold lwU; repeat' (first | rfl | (exfalso; omega) | split)), trivial⟩
                    · skip
                      refine tr_tabOut 86 dX7_lineWord_1 (by omega) (by decide) ?_
                      refine tr_ldcS dX7_lineWord_86 ld7_151 ?_
                      exact tr_aretS hZ dX7_lineWord_88 rfl (by decide) (by decide) ⟨(1 : UInt32), rfl, rfl, rfl, rfl, rfl, rfl, rfl, (by decide), (by unfold lwU; repeat' (first | rfl | (exfalso; omega) | split)), trivial⟩
set_option maxHeartbeats 4000000 in
theorem fk_X7_sortOfWord {l : Launch} {T : Nat → Nat} {cn : Nat} {K N : Nat → Nat} {I0 : cz_I} {R0 : cz_R} {L0 : cz_L} {d : Int} (hW0 : Wf T cn K N I0 R0 d) (gB : cz_B) (gs : Int) {a0 : Nat} (ta0 : T a0 = 7) (pre0 : (I0 a0 3).toInt = (tkK gB gs)) (pre1 : (AtW ((tkK gB gs)) ((L0 a0 5).toInt) ((tkW gB gs)))) : ConE l mX7_sortOfWord [.ref a0] cn K N I0 R0 L0 (ca_i (fun v cn' K' N' I' R' L' => cn = cn' ∧ K = K' ∧ N = N' ∧ I0 = I' ∧ R0 = R' ∧ L0 = L' ∧ ((-1) ≤ v.toInt ∧ v.toInt ≤ 10) ∧ (v.toInt = (srt gB gs)) ∧ True)) := by
  refine ConE.of (by decide +kernel) rfl (Nat.le_of_ble_eq_true rfl) rfl (fun X hX hZ hE => ?_)
  subst hX
  obtain ⟨v1, c2⟩ : ∃ v, I0 a0 3 = v := ⟨_, rfl⟩
  have b3 := iv7_3 hW0 ta0 c2
  have p4 := pre0
  rw [c2] at p4
  obtain ⟨y5, c6⟩ : ∃ v, L0 a0 5 = v := ⟨_, rfl⟩
  have p7 := pre1
  rw [c6] at p7
  refine q_iconst dX7_sortOfWord_0 (by decide) ?_
  intro v8 h9
  refine tr_istore_n dX7_sortOfWord_1 (by decide) (by decide) ?_
  refine tr_iload_n dX7_sortOfWord_2 rfl ?_
  refine q_bipush dX7_sortOfWord_3 (by decide +kernel) ?_
  intro v10 h11
  refine q_icmp_gt 39 dX7_sortOfWord_5 (by decide) (fun h12 => ?_) (fun h12 => ?_)
  · skip
    exfalso; omega
  · skip
    refine tr_aload_n dX7_sortOfWord_8 rfl ?_
    refine q_getI dX7_sortOfWord_9 fl7_58 (kR7 hW0 ta0) c2 ?_
    refine q_iconst dX7_sortOfWord_12 (by decide) ?_
    intro v13 h14
    refine q_icmp_ne 33 dX7_sortOfWord_13 (by decide) (fun h15 => ?_) (fun h15 => ?_)
    · skip
      refine q_iincE dX7_sortOfWord_33 rfl (by decide) (by decide) (by intros; omega) ?_
      intro v16 h17
      refine tr_goto 2 dX7_sortOfWord_36 (by decide) ?_
      refine tr_iload_n dX7_sortOfWord_2 rfl ?_
      refine q_bipush dX7_sortOfWord_3 (by decide +kernel) ?_
      intro v18 h19
      refine q_icmp_gt 39 dX7_sortOfWord_5 (by decide) (fun h20 => ?_) (fun h20 => ?_)
      · skip
        exfalso; omega
      · skip
        refine tr_aload_n dX7_sortOfWord_8 rfl ?_
        refine q_getI dX7_sortOfWord_9 fl7_58 (kR7 hW0 ta0) c2 ?_
        refine q_iconst dX7_sortOfWord_12 (by decide) ?_
        intro v21 h22
        refine q_icmp_ne 33 dX7_sortOfWord_13 (by decide) (fun h23 => ?_) (fun h23 => ?_)
        · skip
          refine q_iincE dX7_sortOfWord_33 rfl (by decide) (by decide) (by intros; omega) ?_
          intro v24 h25
          refine tr_goto 2 dX7_sortOfWord_36 (by decide) ?_
          refine tr_iload_n dX7_sortOfWord_2 rfl ?_
          refine q_bipush dX7_sortOfWord_3 (by decide +kernel) ?_
          intro v26 h27
          refine q_icmp_gt 39 dX7_sortOfWord_5 (by decide) (fun h28 => ?_) (fun h28 => ?_)
          · skip
            exfalso; omega
          · skip
            refine tr_aload_n dX7_sortOfWord_8 rfl ?_
            refine q_getI dX7_sortOfWord_9 fl7_58 (kR7 hW0 ta0) c2 ?_
            refine q_iconst dX7_sortOfWord_12 (by decide) ?_
            intro v29 h30
            refine q_icmp_ne 33 dX7_sortOfWord_13 (by decide) (fun h31 => ?_) (fun h31 => ?_)
            · skip
              refine q_iincE dX7_sortOfWord_33 rfl (by decide) (by decide) (by intros; omega) ?_
              intro v32 h33
              refine tr_goto 2 dX7_sortOfWord_36 (by decide) ?_
              refine tr_iload_n dX7_sortOfWord_2 rfl ?_
              refine q_bipush dX7_sortOfWord_3 (by decide +kernel) ?_
              intro v34 h35
              refine q_icmp_gt 39 dX7_sortOfWord_5 (by decide) (fun h36 => ?_) (fun h36 => ?_)
              · skip
                exfalso; omega
              · skip
                refine tr_aload_n dX7_sortOfWord_8 rfl ?_
                refine q_getI dX7_sortOfWord_9 fl7_58 (kR7 hW0 ta0) c2 ?_
                refine q_iconst dX7_sortOfWord_12 (by decide) ?_
                intro v37 h38
                refine q_icmp_ne 33 dX7_sortOfWord_13 (by decide) (fun h39 => ?_) (fun h39 => ?_)
                · skip
                  refine q_iincE dX7_sortOfWord_33 rfl (by decide) (by decide) (by intros; omega) ?_
                  intro v40 h41
                  refine tr_goto 2 dX7_sortOfWord_36 (by decide) ?_
                  refine tr_iload_n dX7_sortOfWord_2 rfl ?_
                  refine q_bipush dX7_sortOfWord_3 (by decide +kernel) ?_
                  intro v42 h43
                  refine q_icmp_gt 39 dX7_sortOfWord_5 (by decide) (fun h44 => ?_) (fun h44 => ?_)
                  · skip
                    exfalso; omega
                  · skip
                    refine tr_aload_n dX7_sortOfWord_8 rfl ?_
                    refine q_getI dX7_sortOfWord_9 fl7_58 (kR7 hW0 ta0) c2 ?_
                    refine q_iconst dX7_sortOfWord_12 (by decide) ?_
                    intro v45 h46
                    refine q_icmp_ne 33 dX7_sortOfWord_13 (by decide) (fun h47 => ?_) (fun h47 => ?_)
                    · skip
                      refine q_iincE dX7_sortOfWord_33 rfl (by decide) (by decide) (by intros; omega) ?_
                      intro v48 h49
                      refine tr_goto 2 dX7_sortOfWord_36 (by decide) ?_
                      refine tr_iload_n dX7_sortOfWord_2 rfl ?_
                      refine q_bipush dX7_sortOfWord_3 (by decide +kernel) ?_
                      intro v50 h51
                      refine q_icmp_gt 39 dX7_sortOfWord_5 (by decide) (fun h52 => ?_) (fun h52 => ?_)
                      · skip
                        exfalso; omega
                      · skip
                        refine tr_aload_n dX7_sortOfWord_8 rfl ?_
                        refine q_getI dX7_sortOfWord_9 fl7_58 (kR7 hW0 ta0) c2 ?_
                        refine q_iconst dX7_sortOfWord_12 (by decide) ?_
                        intro v53 h54
                        refine q_icmp_ne 33 dX7_sortOfWord_13 (by decide) (fun h55 => ?_) (fun h55 => ?_)
                        · skip
                          refine q_iincE dX7_sortOfWord_33 rfl (by decide) (by decide) (by intros; omega) ?_
                          intro v56 h57
                          refine tr_goto 2 dX7_sortOfWord_36 (by decide) ?_
                          refine tr_iload_n dX7_sortOfWord_2 rfl ?_
                          refine q_bipush dX7_sortOfWord_3 (by decide +kernel) ?_
                          intro v58 h59
                          refine q_icmp_gt 39 dX7_sortOfWord_5 (by decide) (fun h60 => ?_) (fun h60 => ?_)
                          · skip
                            exfalso; omega
                          · skip
                            refine tr_aload_n dX7_sortOfWord_8 rfl ?_
                            refine q_getI dX7_sortOfWord_9 fl7_58 (kR7 hW0 ta0) c2 ?_
                            refine q_iconst dX7_sortOfWord_12 (by decide) ?_
                            intro v61 h62
                            refine q_icmp_ne 33 dX7_sortOfWord_13 (by decide) (fun h63 => ?_) (fun h63 => ?_)
                            · skip
                              refine q_iincE dX7_sortOfWord_33 rfl (by decide) (by decide) (by intros; omega) ?_
                              intro v64 h65
                              refine tr_goto 2 dX7_sortOfWord_36 (by decide) ?_
                              refine tr_iload_n dX7_sortOfWord_2 rfl ?_
                              refine q_bipush dX7_sortOfWord_3 (by decide +kernel) ?_
                              intro v66 h67
                              refine q_icmp_gt 39 dX7_sortOfWord_5 (by decide) (fun h68 => ?_) (fun h68 => ?_)
                              · skip
                                exfalso; omega
                              · skip
                                refine tr_aload_n dX7_sortOfWord_8 rfl ?_
                                refine q_getI dX7_sortOfWord_9 fl7_58 (kR7 hW0 ta0) c2 ?_
                                refine q_iconst dX7_sortOfWord_12 (by decide) ?_
                                intro v69 h70
                                refine q_icmp_ne 33 dX7_sortOfWord_13 (by decide) (fun h71 => ?_) (fun h71 => ?_)
                                · skip
                                  refine q_iincE dX7_sortOfWord_33 rfl (by decide) (by decide) (by intros; omega) ?_
                                  intro v72 h73
                                  refine tr_goto 2 dX7_sortOfWord_36 (by decide) ?_
                                  refine tr_iload_n dX7_sortOfWord_2 rfl ?_
                                  refine q_bipush dX7_sortOfWord_3 (by decide +kernel) ?_
                                  intro v74 h75
                                  refine q_icmp_gt 39 dX7_sortOfWord_5 (by decide) (fun h76 => ?_) (fun h76 => ?_)
                                  · skip
                                    exfalso; omega
                                  · skip
                                    refine tr_aload_n dX7_sortOfWord_8 rfl ?_
                                    refine q_getI dX7_sortOfWord_9 fl7_58 (kR7 hW0 ta0) c2 ?_
                                    refine q_iconst dX7_sortOfWord_12 (by decide) ?_
                                    intro v77 h78
                                    refine q_icmp_ne 33 dX7_sortOfWord_13 (by decide) (fun h79 => ?_) (fun h79 => ?_)
                                    · skip
                                      refine q_iincE dX7_sortOfWord_33 rfl (by decide) (by decide) (by intros; omega) ?_
                                      intro v80 h81
                                      refine tr_goto 2 dX7_sortOfWord_36 (by decide) ?_
                                      refine tr_iload_n dX7_sortOfWord_2 rfl ?_
                                      refine q_bipush dX7_sortOfWord_3 (by decide +kernel) ?_
                                      intro v82 h83
                                      refine q_icmp_gt 39 dX7_sortOfWord_5 (by decide) (fun h84 => ?_) (fun h84 => ?_)
                                      · skip
                                        exfalso; omega
                                      · skip
                                        refine tr_aload_n dX7_sortOfWord_8 rfl ?_
                                        refine q_getI dX7_sortOfWord_9 fl7_58 (kR7 hW0 ta0) c2 ?_
                                        refine q_iconst dX7_sortOfWord_12 (by decide) ?_
                                        intro v85 h86
                                        refine q_icmp_ne 33 dX7_sortOfWord_13 (by decide) (fun h87 => ?_) (fun h87 => ?_)
                                        · skip
                                          refine q_iincE dX7_sortOfWord_33 rfl (by decide) (by decide) (by intros; omega) ?_
                                          intro v88 h89
                                          refine tr_goto 2 dX7_sortOfWord_36 (by decide) ?_
                                          refine tr_iload_n dX7_sortOfWord_2 rfl ?_
                                          refine q_bipush dX7_sortOfWord_3 (by decide +kernel) ?_
                                          intro v90 h91
                                          refine q_icmp_gt 39 dX7_sortOfWord_5 (by decide) (fun h92 => ?_) (fun h92 => ?_)
                                          · skip
                                            exfalso; omega
                                          · skip
                                            refine tr_aload_n dX7_sortOfWord_8 rfl ?_
                                            refine q_getI dX7_sortOfWord_9 fl7_58 (kR7 hW0 ta0) c2 ?_
                                            refine q_iconst dX7_sortOfWord_12 (by decide) ?_
                                            intro v93 h94
                                            refine q_icmp_ne 33 dX7_sortOfWord_13 (by decide) (fun h95 => ?_) (fun h95 => ?_)
                                            · skip
                                              refine q_iincE dX7_sortOfWord_33 rfl (by decide) (by decide) (by intros; omega) ?_
                                              intro v96 h97
                                              refine tr_goto 2 dX7_sortOfWord_36 (by decide) ?_
                                              refine tr_iload_n dX7_sortOfWord_2 rfl ?_
                                              refine q_bipush dX7_sortOfWord_3 (by decide +kernel) ?_
                                              intro v98 h99
                                              refine q_icmp_gt 39 dX7_sortOfWord_5 (by decide) (fun h100 => ?_) (fun h100 => ?_)
                                              · skip
                                                refine q_iconst dX7_sortOfWord_39 (by decide) ?_
                                                intro v101 h102
                                                have sr103 : srt gB gs = -1 := srt_nk (by omega)
                                                exact tr_iret hZ dX7_sortOfWord_40 rfl (by decide) (by decide) ⟨v101, rfl, rfl, rfl, rfl, rfl, rfl, rfl, (by omega), (by first | done | with_reducible assumption | omega), trivial⟩
                                              · skip
                                                exfalso; omega
                                            · skip
                                              exfalso; omega
                                        · skip
                                          exfalso; omega
                                    · skip
                                      exfalso; omega
                                · skip
                                  exfalso; omega
                            · skip
                              exfalso; omega
                        · skip
                          exfalso; omega
                    · skip
                      exfalso; omega
                · skip
                  exfalso; omega
            · skip
              exfalso; omega
        · skip
          exfalso; omega
    · skip
      refine tr_aload_n dX7_sortOfWord_16 rfl ?_
      have p104 := p7 (by omega)
      refine q_getLE dX7_sortOfWord_17 fl7_78 (kR7 hW0 ta0) c6 ?_
      refine tr_iload_n dX7_sortOfWord_20 rfl ?_
      refine q_callSs hE (M' := mX7_lineWord) (as := [_]) dX7_sortOfWord_21 lk7_152 inX7_lineWord myX7_lineWord ⟨by decide, by decide⟩ rfl (Nat.le_of_ble_eq_true rfl) rfl rfl (by decide) (by decide) (fk_X7_lineWord hW0  ) ?_
      rintro u110 cn' K' N' I105 R106 L107 ⟨rfl, rfl, rfl, rfl, rfl, rfl, tu110, rp111, -⟩
      obtain rfl : u110 = (7 : UInt32) := rp111.trans (by rw [show v8.toInt = 0 by omega]; decide +kernel)
      refine q_callSl hE (M' := mX7_packed) (as := [_]) dX7_sortOfWord_24 lk7_97 inX7_packed myX7_packed ⟨by decide, by decide⟩ rfl (Nat.le_of_ble_eq_true rfl) rfl rfl (by decide) (by decide) (f_X7_packed   (by decide)) ?_
      rintro y117 cn' K' N' I112 R113 L114 ⟨rfl, rfl, rfl, rfl, rfl, rfl, p118, -⟩
      (try rw [pk_7] at p118)
      refine q_lcmpNe 33 dX7_sortOfWord_27 dX7_sortOfWord_28 (by decide) (fun h119 => ?_) (fun h119 => ?_)
      · skip
        have nw120 : NeI (tkW gB gs) 3554980 := fun q => h119 (by omega)
        clear h119
        refine q_iincE dX7_sortOfWord_33 rfl (by decide) (by decide) (by intros; omega) ?_
        intro v121 h122
        refine tr_goto 2 dX7_sortOfWord_36 (by decide) ?_
        refine tr_iload_n dX7_sortOfWord_2 rfl ?_
        refine q_bipush dX7_sortOfWord_3 (by decide +kernel) ?_
        intro v123 h124
        refine q_icmp_gt 39 dX7_sortOfWord_5 (by decide) (fun h125 => ?_) (fun h125 => ?_)
        · skip
          exfalso; omega
        · skip
          refine tr_aload_n dX7_sortOfWord_8 rfl ?_
          refine q_getI dX7_sortOfWord_9 fl7_58 (kR7 hW0 ta0) c2 ?_
          refine q_iconst dX7_sortOfWord_12 (by decide) ?_
          intro v126 h127
          refine q_icmp_ne 33 dX7_sortOfWord_13 (by decide) (fun h128 => ?_) (fun h128 => ?_)
          · skip
            exfalso; omega
          · skip
            refine tr_aload_n dX7_sortOfWord_16 rfl ?_
            refine q_getLE dX7_sortOfWord_17 fl7_78 (kR7 hW0 ta0) c6 ?_
            refine tr_iload_n dX7_sortOfWord_20 rfl ?_
            refine q_callSs hE (M' := mX7_lineWord) (as := [_]) dX7_sortOfWord_21 lk7_152 inX7_lineWord myX7_lineWord ⟨by decide, by decide⟩ rfl (Nat.le_of_ble_eq_true rfl) rfl rfl (by decide) (by decide) (fk_X7_lineWord hW0  ) ?_
            rintro u134 cn' K' N' I129 R130 L131 ⟨rfl, rfl, rfl, rfl, rfl, rfl, tu134, rp135, -⟩
            obtain rfl : u134 = (11 : UInt32) := rp135.trans (by rw [show v121.toInt = 1 by omega]; decide +kernel)
            refine q_callSl hE (M' := mX7_packed) (as := [_]) dX7_sortOfWord_24 lk7_97 inX7_packed myX7_packed ⟨by decide, by decide⟩ rfl (Nat.le_of_ble_eq_true rfl) rfl rfl (by decide) (by decide) (f_X7_packed   (by decide)) ?_
            rintro y141 cn' K' N' I136 R137 L138 ⟨rfl, rfl, rfl, rfl, rfl, rfl, p142, -⟩
            (try rw [pk_11] at p142)
            refine q_lcmpNe 33 dX7_sortOfWord_27 dX7_sortOfWord_28 (by decide) (fun h143 => ?_) (fun h143 => ?_)
            · skip
              have nw144 : NeI (tkW gB gs) 5482267237 := fun q => h143 (by omega)
              clear h143
              refine q_iincE dX7_sortOfWord_33 rfl (by decide) (by decide) (by intros; omega) ?_
              intro v145 h146
              refine tr_goto 2 dX7_sortOfWord_36 (by decide) ?_
              refine tr_iload_n dX7_sortOfWord_2 rfl ?_
              refine q_bipush dX7_sortOfWord_3 (by decide +kernel) ?_
              intro v147 h148
              refine q_icmp_gt 39 dX7_sortOfWord_5 (by decide) (fun h149 => ?_) (fun h149 => ?_)
              · skip
                exfalso; omega
              · skip
                refine tr_aload_n dX7_sortOfWord_8 rfl ?_
                refine q_getI dX7_sortOfWord_9 fl7_58 (kR7 hW0 ta0) c2 ?_
                refine q_iconst dX7_sortOfWord_12 (by decide) ?_
                intro v150 h151
                refine q_icmp_ne 33 dX7_sortOfWord_13 (by decide) (fun h152 => ?_) (fun h152 => ?_)
                · skip
                  exfalso; omega
                · skip
                  refine tr_aload_n dX7_sortOfWord_16 rfl ?_
                  refine q_getLE dX7_sortOfWord_17 fl7_78 (kR7 hW0 ta0) c6 ?_
                  refine tr_iload_n dX7_sortOfWord_20 rfl ?_
                  refine q_callSs hE (M' := mX7_lineWord) (as := [_]) dX7_sortOfWord_21 lk7_152 inX7_lineWord myX7_lineWord ⟨by decide, by decide⟩ rfl (Nat.le_of_ble_eq_true rfl) rfl rfl (by decide) (by decide) (fk_X7_lineWord hW0  ) ?_
                  rintro u158 cn' K' N' I153 R154 L155 ⟨rfl, rfl, rfl, rfl, rfl, rfl, tu158, rp159, -⟩
                  obtain rfl : u158 = (17 : UInt32) := rp159.trans (by rw [show v145.toInt = 2 by omega]; decide +kernel)
                  refine q_callSl hE (M' := mX7_packed) (as := [_]) dX7_sortOfWord_24 lk7_97 inX7_packed myX7_packed ⟨by decide, by decide⟩ rfl (Nat.le_of_ble_eq_true rfl) rfl rfl (by decide) (by decide) (f_X7_packed   (by decide)) ?_
                  rintro y165 cn' K' N' I160 R161 L162 ⟨rfl, rfl, rfl, rfl, rfl, rfl, p166, -⟩
                  (try rw [pk_17] at p166)
                  refine q_lcmpNe 33 dX7_sortOfWord_27 dX7_sortOfWord_28 (by decide) (fun h167 => ?_) (fun h167 => ?_)
                  · skip
                    have nw168 : NeI (tkW gB gs) 394672 := fun q => h167 (by omega)
                    clear h167
                    refine q_iincE dX7_sortOfWord_33 rfl (by decide) (by decide) (by intros; omega) ?_
                    intro v169 h170
                    refine tr_goto 2 dX7_sortOfWord_36 (by decide) ?_
                    refine tr_iload_n dX7_sortOfWord_2 rfl ?_
                    refine q_bipush dX7_sortOfWord_3 (by decide +kernel) ?_
                    intro v171 h172
                    refine q_icmp_gt 39 dX7_sortOfWord_5 (by decide) (fun h173 => ?_) (fun h173 => ?_)
                    · skip
                      exfalso; omega
                    · skip
                      refine tr_aload_n dX7_sortOfWord_8 rfl ?_
                      refine q_getI dX7_sortOfWord_9 fl7_58 (kR7 hW0 ta0) c2 ?_
                      refine q_iconst dX7_sortOfWord_12 (by decide) ?_
                      intro v174 h175
                      refine q_icmp_ne 33 dX7_sortOfWord_13 (by decide) (fun h176 => ?_) (fun h176 => ?_)
                      · skip
                        exfalso; omega
                      · skip
                        refine tr_aload_n dX7_sortOfWord_16 rfl ?_
                        refine q_getLE dX7_sortOfWord_17 fl7_78 (kR7 hW0 ta0) c6 ?_
                        refine tr_iload_n dX7_sortOfWord_20 rfl ?_
                        refine q_callSs hE (M' := mX7_lineWord) (as := [_]) dX7_sortOfWord_21 lk7_152 inX7_lineWord myX7_lineWord ⟨by decide, by decide⟩ rfl (Nat.le_of_ble_eq_true rfl) rfl rfl (by decide) (by decide) (fk_X7_lineWord hW0  ) ?_
                        rintro u182 cn' K' N' I177 R178 L179 ⟨rfl, rfl, rfl, rfl, rfl, rfl, tu182, rp183, -⟩
                        obtain rfl : u182 = (22 : UInt32) := rp183.trans (by rw [show v169.toInt = 3 by omega]; decide +kernel)
                        refine q_callSl hE (M' := mX7_packed) (as := [_]) dX7_sortOfWord_24 lk7_97 inX7_packed myX7_packed ⟨by decide, by decide⟩ rfl (Nat.le_of_ble_eq_true rfl) rfl rfl (by decide) (by decide) (f_X7_packed   (by decide)) ?_
                        rintro y189 cn' K' N' I184 R185 L186 ⟨rfl, rfl, rfl, rfl, rfl, rfl, p190, -⟩
                        (try rw [pk_22] at p190)
                        refine q_lcmpNe 33 dX7_sortOfWord_27 dX7_sortOfWord_28 (by decide) (fun h191 => ?_) (fun h191 => ?_)
                        · skip
                          have nw192 : NeI (tkW gB gs) 20692226226 := fun q => h191 (by omega)
                          clear h191
                          refine q_iincE dX7_sortOfWord_33 rfl (by decide) (by decide) (by intros; omega) ?_
                          intro v193 h194
                          refine tr_goto 2 dX7_sortOfWord_36 (by decide) ?_
                          refine tr_iload_n dX7_sortOfWord_2 rfl ?_
                          refine q_bipush dX7_sortOfWord_3 (by decide +kernel) ?_
                          intro v195 h196
                          refine q_icmp_gt 39 dX7_sortOfWord_5 (by decide) (fun h197 => ?_) (fun h197 => ?_)
                          · skip
                            exfalso; omega
                          · skip
                            refine tr_aload_n dX7_sortOfWord_8 rfl ?_
                            refine q_getI dX7_sortOfWord_9 fl7_58 (kR7 hW0 ta0) c2 ?_
                            refine q_iconst dX7_sortOfWord_12 (by decide) ?_
                            intro v198 h199
                            refine q_icmp_ne 33 dX7_sortOfWord_13 (by decide) (fun h200 => ?_) (fun h200 => ?_)
                            · skip
                              exfalso; omega
                            · skip
                              refine tr_aload_n dX7_sortOfWord_16 rfl ?_
                              refine q_getLE dX7_sortOfWord_17 fl7_78 (kR7 hW0 ta0) c6 ?_
                              refine tr_iload_n dX7_sortOfWord_20 rfl ?_
                              refine q_callSs hE (M' := mX7_lineWord) (as := [_]) dX7_sortOfWord_21 lk7_152 inX7_lineWord myX7_lineWord ⟨by decide, by decide⟩ rfl (Nat.le_of_ble_eq_true rfl) rfl rfl (by decide) (by decide) (fk_X7_lineWord hW0  ) ?_
                              rintro u206 cn' K' N' I201 R202 L203 ⟨rfl, rfl, rfl, rfl, rfl, rfl, tu206, rp207, -⟩
                              obtain rfl : u206 = (4 : UInt32) := rp207.trans (by rw [show v193.toInt = 4 by omega]; decide +kernel)
                              refine q_callSl hE (M' := mX7_packed) (as := [_]) dX7_sortOfWord_24 lk7_97 inX7_packed myX7_packed ⟨by decide, by decide⟩ rfl (Nat.le_of_ble_eq_true rfl) rfl rfl (by decide) (by decide) (f_X7_packed   (by decide)) ?_
                              rintro y213 cn' K' N' I208 R209 L210 ⟨rfl, rfl, rfl, rfl, rfl, rfl, p214, -⟩
                              (try rw [pk_4] at p214)
                              refine q_lcmpNe 33 dX7_sortOfWord_27 dX7_sortOfWord_28 (by decide) (fun h215 => ?_) (fun h215 => ?_)
                              · skip
                                have nw216 : NeI (tkW gB gs) 81300 := fun q => h215 (by omega)
                                clear h215
                                refine q_iincE dX7_sortOfWord_33 rfl (by decide) (by decide) (by intros; omega) ?_
                                intro v217 h218
                                refine tr_goto 2 dX7_sortOfWord_36 (by decide) ?_
                                refine tr_iload_n dX7_sortOfWord_2 rfl ?_
                                refine q_bipush dX7_sortOfWord_3 (by decide +kernel) ?_
                                intro v219 h220
                                refine q_icmp_gt 39 dX7_sortOfWord_5 (by decide) (fun h221 => ?_) (fun h221 => ?_)
                                · skip
                                  exfalso; omega
                                · skip
                                  refine tr_aload_n dX7_sortOfWord_8 rfl ?_
                                  refine q_getI dX7_sortOfWord_9 fl7_58 (kR7 hW0 ta0) c2 ?_
                                  refine q_iconst dX7_sortOfWord_12 (by decide) ?_
                                  intro v222 h223
                                  refine q_icmp_ne 33 dX7_sortOfWord_13 (by decide) (fun h224 => ?_) (fun h224 => ?_)
                                  · skip
                                    exfalso; omega
                                  · skip
                                    refine tr_aload_n dX7_sortOfWord_16 rfl ?_
                                    refine q_getLE dX7_sortOfWord_17 fl7_78 (kR7 hW0 ta0) c6 ?_
                                    refine tr_iload_n dX7_sortOfWord_20 rfl ?_
                                    refine q_callSs hE (M' := mX7_lineWord) (as := [_]) dX7_sortOfWord_21 lk7_152 inX7_lineWord myX7_lineWord ⟨by decide, by decide⟩ rfl (Nat.le_of_ble_eq_true rfl) rfl rfl (by decide) (by decide) (fk_X7_lineWord hW0  ) ?_
                                    rintro u230 cn' K' N' I225 R226 L227 ⟨rfl, rfl, rfl, rfl, rfl, rfl, tu230, rp231, -⟩
                                    obtain rfl : u230 = (6 : UInt32) := rp231.trans (by rw [show v217.toInt = 5 by omega]; decide +kernel)
                                    refine q_callSl hE (M' := mX7_packed) (as := [_]) dX7_sortOfWord_24 lk7_97 inX7_packed myX7_packed ⟨by decide, by decide⟩ rfl (Nat.le_of_ble_eq_true rfl) rfl rfl (by decide) (by decide) (f_X7_packed   (by decide)) ?_
                                    rintro y237 cn' K' N' I232 R233 L234 ⟨rfl, rfl, rfl, rfl, rfl, rfl, p238, -⟩
                                    (try rw [pk_6] at p238)
                                    refine q_lcmpNe 33 dX7_sortOfWord_27 dX7_sortOfWord_28 (by decide) (fun h239 => ?_) (fun h239 => ?_)
                                    · skip
                                      have nw240 : NeI (tkW gB gs) 109221477 := fun q => h239 (by omega)
                                      clear h239
                                      refine q_iincE dX7_sortOfWord_33 rfl (by decide) (by decide) (by intros; omega) ?_
                                      intro v241 h242
                                      refine tr_goto 2 dX7_sortOfWord_36 (by decide) ?_
                                      refine tr_iload_n dX7_sortOfWord_2 rfl ?_
                                      refine q_bipush dX7_sortOfWord_3 (by decide +kernel) ?_
                                      intro v243 h244
                                      refine q_icmp_gt 39 dX7_sortOfWord_5 (by decide) (fun h245 => ?_) (fun h245 => ?_)
                                      · skip
                                        exfalso; omega
                                      · skip
                                        refine tr_aload_n dX7_sortOfWord_8 rfl ?_
                                        refine q_getI dX7_sortOfWord_9 fl7_58 (kR7 hW0 ta0) c2 ?_
                                        refine q_iconst dX7_sortOfWord_12 (by decide) ?_
                                        intro v246 h247
                                        refine q_icmp_ne 33 dX7_sortOfWord_13 (by decide) (fun h248 => ?_) (fun h248 => ?_)
                                        · skip
                                          exfalso; omega
                                        · skip
                                          refine tr_aload_n dX7_sortOfWord_16 rfl ?_
                                          refine q_getLE dX7_sortOfWord_17 fl7_78 (kR7 hW0 ta0) c6 ?_
                                          refine tr_iload_n dX7_sortOfWord_20 rfl ?_
                                          refine q_callSs hE (M' := mX7_lineWord) (as := [_]) dX7_sortOfWord_21 lk7_152 inX7_lineWord myX7_lineWord ⟨by decide, by decide⟩ rfl (Nat.le_of_ble_eq_true rfl) rfl rfl (by decide) (by decide) (fk_X7_lineWord hW0  ) ?_
                                          rintro u254 cn' K' N' I249 R250 L251 ⟨rfl, rfl, rfl, rfl, rfl, rfl, tu254, rp255, -⟩
                                          obtain rfl : u254 = (0 : UInt32) := rp255.trans (by rw [show v241.toInt = 6 by omega]; decide +kernel)
                                          refine q_callSl hE (M' := mX7_packed) (as := [_]) dX7_sortOfWord_24 lk7_97 inX7_packed myX7_packed ⟨by decide, by decide⟩ rfl (Nat.le_of_ble_eq_true rfl) rfl rfl (by decide) (by decide) (f_X7_packed   (by decide)) ?_
                                          rintro y261 cn' K' N' I256 R257 L258 ⟨rfl, rfl, rfl, rfl, rfl, rfl, p262, -⟩
                                          (try rw [pk_0] at p262)
                                          refine q_lcmpNe 33 dX7_sortOfWord_27 dX7_sortOfWord_28 (by decide) (fun h263 => ?_) (fun h263 => ?_)
                                          · skip
                                            have nw264 : NeI (tkW gB gs) 1490073635 := fun q => h263 (by omega)
                                            clear h263
                                            refine q_iincE dX7_sortOfWord_33 rfl (by decide) (by decide) (by intros; omega) ?_
                                            intro v265 h266
                                            refine tr_goto 2 dX7_sortOfWord_36 (by decide) ?_
                                            refine tr_iload_n dX7_sortOfWord_2 rfl ?_
                                            refine q_bipush dX7_sortOfWord_3 (by decide +kernel) ?_
                                            intro v267 h268
                                            refine q_icmp_gt 39 dX7_sortOfWord_5 (by decide) (fun h269 => ?_) (fun h269 => ?_)
                                            · skip
                                              exfalso; omega
                                            · skip
                                              refine tr_aload_n dX7_sortOfWord_8 rfl ?_
                                              refine q_getI dX7_sortOfWord_9 fl7_58 (kR7 hW0 ta0) c2 ?_
                                              refine q_iconst dX7_sortOfWord_12 (by decide) ?_
                                              intro v270 h271
                                              refine q_icmp_ne 33 dX7_sortOfWord_13 (by decide) (fun h272 => ?_) (fun h272 => ?_)
                                              · skip
                                                exfalso; omega
                                              · skip
                                                refine tr_aload_n dX7_sortOfWord_16 rfl ?_
                                                refine q_getLE dX7_sortOfWord_17 fl7_78 (kR7 hW0 ta0) c6 ?_
                                                refine tr_iload_n dX7_sortOfWord_20 rfl ?_
                                                refine q_callSs hE (M' := mX7_lineWord) (as := [_]) dX7_sortOfWord_21 lk7_152 inX7_lineWord myX7_lineWord ⟨by decide, by decide⟩ rfl (Nat.le_of_ble_eq_true rfl) rfl rfl (by decide) (by decide) (fk_X7_lineWord hW0  ) ?_
                                                rintro u278 cn' K' N' I273 R274 L275 ⟨rfl, rfl, rfl, rfl, rfl, rfl, tu278, rp279, -⟩
                                                obtain rfl : u278 = (26 : UInt32) := rp279.trans (by rw [show v265.toInt = 7 by omega]; decide +kernel)
                                                refine q_callSl hE (M' := mX7_packed) (as := [_]) dX7_sortOfWord_24 lk7_97 inX7_packed myX7_packed ⟨by decide, by decide⟩ rfl (Nat.le_of_ble_eq_true rfl) rfl rfl (by decide) (by decide) (f_X7_packed   (by decide)) ?_
                                                rintro y285 cn' K' N' I280 R281 L282 ⟨rfl, rfl, rfl, rfl, rfl, rfl, p286, -⟩
                                                (try rw [pk_26] at p286)
                                                refine q_lcmpNe 33 dX7_sortOfWord_27 dX7_sortOfWord_28 (by decide) (fun h287 => ?_) (fun h287 => ?_)
                                                · skip
                                                  have nw288 : NeI (tkW gB gs) 693713074 := fun q => h287 (by omega)
                                                  clear h287
                                                  refine q_iincE dX7_sortOfWord_33 rfl (by decide) (by decide) (by intros; omega) ?_
                                                  intro v289 h290
                                                  refine tr_goto 2 dX7_sortOfWord_36 (by decide) ?_
                                                  refine tr_iload_n dX7_sortOfWord_2 rfl ?_
                                                  refine q_bipush dX7_sortOfWord_3 (by decide +kernel) ?_
                                                  intro v291 h292
                                                  refine q_icmp_gt 39 dX7_sortOfWord_5 (by decide) (fun h293 => ?_) (fun h293 => ?_)
                                                  · skip
                                                    exfalso; omega
                                                  · skip
                                                    refine tr_aload_n dX7_sortOfWord_8 rfl ?_
                                                    refine q_getI dX7_sortOfWord_9 fl7_58 (kR7 hW0 ta0) c2 ?_
                                                    refine q_iconst dX7_sortOfWord_12 (by decide) ?_
                                                    intro v294 h295
                                                    refine q_icmp_ne 33 dX7_sortOfWord_13 (by decide) (fun h296 => ?_) (fun h296 => ?_)
                                                    · skip
                                                      exfalso; omega
                                                    · skip
                                                      refine tr_aload_n dX7_sortOfWord_16 rfl ?_
                                                      refine q_getLE dX7_sortOfWord_17 fl7_78 (kR7 hW0 ta0) c6 ?_
                                                      refine tr_iload_n dX7_sortOfWord_20 rfl ?_
                                                      refine q_callSs hE (M' := mX7_lineWord) (as := [_]) dX7_sortOfWord_21 lk7_152 inX7_lineWord myX7_lineWord ⟨by decide, by decide⟩ rfl (Nat.le_of_ble_eq_true rfl) rfl rfl (by decide) (by decide) (fk_X7_lineWord hW0  ) ?_
                                                      rintro u302 cn' K' N' I297 R298 L299 ⟨rfl, rfl, rfl, rfl, rfl, rfl, tu302, rp303, -⟩
                                                      obtain rfl : u302 = (5 : UInt32) := rp303.trans (by rw [show v289.toInt = 8 by omega]; decide +kernel)
                                                      refine q_callSl hE (M' := mX7_packed) (as := [_]) dX7_sortOfWord_24 lk7_97 inX7_packed myX7_packed ⟨by decide, by decide⟩ rfl (Nat.le_of_ble_eq_true rfl) rfl rfl (by decide) (by decide) (f_X7_packed   (by decide)) ?_
                                                      rintro y309 cn' K' N' I304 R305 L306 ⟨rfl, rfl, rfl, rfl, rfl, rfl, p310, -⟩
                                                      (try rw [pk_5] at p310)
                                                      refine q_lcmpNe 33 dX7_sortOfWord_27 dX7_sortOfWord_28 (by decide) (fun h311 => ?_) (fun h311 => ?_)
                                                      · skip
                                                        have nw312 : NeI (tkW gB gs) 99724 := fun q => h311 (by omega)
                                                        clear h311
                                                        refine q_iincE dX7_sortOfWord_33 rfl (by decide) (by decide) (by intros; omega) ?_
                                                        intro v313 h314
                                                        refine tr_goto 2 dX7_sortOfWord_36 (by decide) ?_
                                                        refine tr_iload_n dX7_sortOfWord_2 rfl ?_
                                                        refine q_bipush dX7_sortOfWord_3 (by decide +kernel) ?_
                                                        intro v315 h316
                                                        refine q_icmp_gt 39 dX7_sortOfWord_5 (by decide) (fun h317 => ?_) (fun h317 => ?_)
                                                        · skip
                                                          exfalso; omega
                                                        · skip
                                                          refine tr_aload_n dX7_sortOfWord_8 rfl ?_
                                                          refine q_getI dX7_sortOfWord_9 fl7_58 (kR7 hW0 ta0) c2 ?_
                                                          refine q_iconst dX7_sortOfWord_12 (by decide) ?_
                                                          intro v318 h319
                                                          refine q_icmp_ne 33 dX7_sortOfWord_13 (by decide) (fun h320 => ?_) (fun h320 => ?_)
                                                          · skip
                                                            exfalso; omega
                                                          · skip
                                                            refine tr_aload_n dX7_sortOfWord_16 rfl ?_
                                                            refine q_getLE dX7_sortOfWord_17 fl7_78 (kR7 hW0 ta0) c6 ?_
                                                            refine tr_iload_n dX7_sortOfWord_20 rfl ?_
                                                            refine q_callSs hE (M' := mX7_lineWord) (as := [_]) dX7_sortOfWord_21 lk7_152 inX7_lineWord myX7_lineWord ⟨by decide, by decide⟩ rfl (Nat.le_of_ble_eq_true rfl) rfl rfl (by decide) (by decide) (fk_X7_lineWord hW0  ) ?_
                                                            rintro u326 cn' K' N' I321 R322 L323 ⟨rfl, rfl, rfl, rfl, rfl, rfl, tu326, rp327, -⟩
                                                            obtain rfl : u326 = (23 : UInt32) := rp327.trans (by rw [show v313.toInt = 9 by omega]; decide +kernel)
                                                            refine q_callSl hE (M' := mX7_packed) (as := [_]) dX7_sortOfWord_24 lk7_97 inX7_packed myX7_packed ⟨by decide, by decide⟩ rfl (Nat.le_of_ble_eq_true rfl) rfl rfl (by decide) (by decide) (f_X7_packed   (by decide)) ?_
                                                            rintro y333 cn' K' N' I328 R329 L330 ⟨rfl, rfl, rfl, rfl, rfl, rfl, p334, -⟩
                                                            (try rw [pk_23] at p334)
                                                            refine q_lcmpNe 33 dX7_sortOfWord_27 dX7_sortOfWord_28 (by decide) (fun h335 => ?_) (fun h335 => ?_)
                                                            · skip
                                                              have nw336 : NeI (tkW gB gs) 20325477 := fun q => h335 (by omega)
                                                              clear h335
                                                              refine q_iincE dX7_sortOfWord_33 rfl (by decide) (by decide) (by intros; omega) ?_
                                                              intro v337 h338
                                                              refine tr_goto 2 dX7_sortOfWord_36 (by decide) ?_
                                                              refine tr_iload_n dX7_sortOfWord_2 rfl ?_
                                                              refine q_bipush dX7_sortOfWord_3 (by decide +kernel) ?_
                                                              intro v339 h340
                                                              refine q_icmp_gt 39 dX7_sortOfWord_5 (by decide) (fun h341 => ?_) (fun h341 => ?_)
                                                              · skip
                                                                exfalso; omega
                                                              · skip
                                                                refine tr_aload_n dX7_sortOfWord_8 rfl ?_
                                                                refine q_getI dX7_sortOfWord_9 fl7_58 (kR7 hW0 ta0) c2 ?_
                                                                refine q_iconst dX7_sortOfWord_12 (by decide) ?_
                                                                intro v342 h343
                                                                refine q_icmp_ne 33 dX7_sortOfWord_13 (by decide) (fun h344 => ?_) (fun h344 => ?_)
                                                                · skip
                                                                  exfalso; omega
                                                                · skip
                                                                  refine tr_aload_n dX7_sortOfWord_16 rfl ?_
                                                                  refine q_getLE dX7_sortOfWord_17 fl7_78 (kR7 hW0 ta0) c6 ?_
                                                                  refine tr_iload_n dX7_sortOfWord_20 rfl ?_
                                                                  refine q_callSs hE (M' := mX7_lineWord) (as := [_]) dX7_sortOfWord_21 lk7_152 inX7_lineWord myX7_lineWord ⟨by decide, by decide⟩ rfl (Nat.le_of_ble_eq_true rfl) rfl rfl (by decide) (by decide) (fk_X7_lineWord hW0  ) ?_
                                                                  rintro u350 cn' K' N' I345 R346 L347 ⟨rfl, rfl, rfl, rfl, rfl, rfl, tu350, rp351, -⟩
                                                                  obtain rfl : u350 = (1 : UInt32) := rp351.trans (by rw [show v337.toInt = 10 by omega]; decide +kernel)
                                                                  refine q_callSl hE (M' := mX7_packed) (as := [_]) dX7_sortOfWord_24 lk7_97 inX7_packed myX7_packed ⟨by decide, by decide⟩ rfl (Nat.le_of_ble_eq_true rfl) rfl rfl (by decide) (by decide) (f_X7_packed   (by decide)) ?_
                                                                  rintro y357 cn' K' N' I352 R353 L354 ⟨rfl, rfl, rfl, rfl, rfl, rfl, p358, -⟩
                                                                  (try rw [pk_1] at p358)
                                                                  refine q_lcmpNe 33 dX7_sortOfWord_27 dX7_sortOfWord_28 (by decide) (fun h359 => ?_) (fun h359 => ?_)
                                                                  · skip
                                                                    have nw360 : NeI (tkW gB gs) 1424 := fun q => h359 (by omega)
                                                                    clear h359
                                                                    refine q_iincE dX7_sortOfWord_33 rfl (by decide) (by decide) (by intros; omega) ?_
                                                                    intro v361 h362
                                                                    refine tr_goto 2 dX7_sortOfWord_36 (by decide) ?_
                                                                    refine tr_iload_n dX7_sortOfWord_2 rfl ?_
                                                                    refine q_bipush dX7_sortOfWord_3 (by decide +kernel) ?_
                                                                    intro v363 h364
                                                                    refine q_icmp_gt 39 dX7_sortOfWord_5 (by decide) (fun h365 => ?_) (fun h365 => ?_)
                                                                    · skip
                                                                      refine q_iconst dX7_sortOfWord_39 (by decide) ?_
                                                                      intro v366 h367
                                                                      have sr368 : srt gB gs = -1 := srt_no nw120 nw144 nw168 nw192 nw216 nw240 nw264 nw288 nw312 nw336 nw360
                                                                      exact tr_iret hZ dX7_sortOfWord_40 rfl (by decide) (by decide) ⟨v366, rfl, rfl, rfl, rfl, rfl, rfl, rfl, (by omega), (by first | done | with_reducible assumption | omega), trivial⟩
                                                                    · skip
                                                                      exfalso; omega
                                                                  · skip
                                                                    refine tr_iload_n dX7_sortOfWord_31 rfl ?_
                                                                    have sr369 : srt gB gs = 10 := srt_10 (by omega) (by omega)
                                                                    exact tr_iret hZ dX7_sortOfWord_32 rfl (by decide) (by decide) ⟨v337, rfl, rfl, rfl, rfl, rfl, rfl, rfl, (by omega), (by first | done | with_reducible assumption | omega), trivial⟩
                                                            · skip
                                                              refine tr_iload_n dX7_sortOfWord_31 rfl ?_
                                                              have sr370 : srt gB gs = 9 := srt_9 (by omega) (by omega)
                                                              exact tr_iret hZ dX7_sortOfWord_32 rfl (by decide) (by decide) ⟨v313, rfl, rfl, rfl, rfl, rfl, rfl, rfl, (by omega), (by first | done | with_reducible assumption | omega), trivial⟩
                                                      · skip
                                                        refine tr_iload_n dX7_sortOfWord_31 rfl ?_
                                                        have sr371 : srt gB gs = 8 := srt_8 (by omega) (by omega)
                                                        exact tr_iret hZ dX7_sortOfWord_32 rfl (by decide) (by decide) ⟨v289, rfl, rfl, rfl, rfl, rfl, rfl, rfl, (by omega), (by first | done | with_reducible assumption | omega), trivial⟩
                                                · skip
                                                  refine tr_iload_n dX7_sortOfWord_31 rfl ?_
                                                  have sr372 : srt gB gs = 7 := srt_7 (by omega) (by omega)
                                                  exact tr_iret hZ dX7_sortOfWord_32 rfl (by decide) (by decide) ⟨v265, rfl, rfl, rfl, rfl, rfl, rfl, rfl, (by omega), (by first | done | with_reducible assumption | omega), trivial⟩
                                          · skip
                                            refine tr_iload_n dX7_sortOfWord_31 rfl ?_
                                            have sr373 : srt gB gs = 6 := srt_6 (by omega) (by omega)
                                            exact tr_iret hZ dX7_sortOfWord_32 rfl (by decide) (by decide) ⟨v241, rfl, rfl, rfl, rfl, rfl, rfl, rfl, (by omega), (by first | done | with_reducible assumption | omega), trivial⟩
                                    · skip
                                      refine tr_iload_n dX7_sortOfWord_31 rfl ?_
                                      have sr374 : srt gB gs = 5 := srt_5 (by omega) (by omega)
                                      exact tr_iret hZ dX7_sortOfWord_32 rfl (by decide) (by decide) ⟨v217, rfl, rfl, rfl, rfl, rfl, rfl, rfl, (by omega), (by first | done | with_reducible assumption | omega), trivial⟩
                              · skip
                                refine tr_iload_n dX7_sortOfWord_31 rfl ?_
                                have sr375 : srt gB gs = 4 := srt_4 (by omega) (by omega)
                                exact tr_iret hZ dX7_sortOfWord_32 rfl (by decide) (by decide) ⟨v193, rfl, rfl, rfl, rfl, rfl, rfl, rfl, (by omega), (by first | done | with_reducible assumption | omega), trivial⟩
                        · skip
                          refine tr_iload_n dX7_sortOfWord_31 rfl ?_
                          have sr376 : srt gB gs = 3 := srt_3 (by omega) (by omega)
                          exact tr_iret hZ dX7_sortOfWord_32 rfl (by decide) (by decide) ⟨v169, rfl, rfl, rfl, rfl, rfl, rfl, rfl, (by omega), (by first | done | with_reducible assumption | omega), trivial⟩
                  · skip
                    refine tr_iload_n dX7_sortOfWord_31 rfl ?_
                    have sr377 : srt gB gs = 2 := srt_2 (by omega) (by omega)
                    exact tr_iret hZ dX7_sortOfWord_32 rfl (by decide) (by decide) ⟨v145, rfl, rfl, rfl, rfl, rfl, rfl, rfl, (by omega), (by first | done | with_reducible assumption | omega), trivial⟩
            · skip
              refine tr_iload_n dX7_sortOfWord_31 rfl ?_
              have sr378 : srt gB gs = 1 := srt_1 (by omega) (by omega)
              exact tr_iret hZ dX7_sortOfWord_32 rfl (by decide) (by decide) ⟨v121, rfl, rfl, rfl, rfl, rfl, rfl, rfl, (by omega), (by first | done | with_reducible assumption | omega), trivial⟩
      · skip
        refine tr_iload_n dX7_sortOfWord_31 rfl ?_
        have sr379 : srt gB gs = 0 := srt_0 (by omega) (by omega)
        exact tr_iret hZ dX7_sortOfWord_32 rfl (by decide) (by decide) ⟨v8, rfl, rfl, rfl, rfl, rfl, rfl, rfl, (by omega), (by first | done | with_reducible assumption | omega), trivial⟩
