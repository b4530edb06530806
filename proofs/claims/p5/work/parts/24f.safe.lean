set_option maxHeartbeats 4000000 in
theorem k_X10_size {l : Launch} {T : Nat → Nat} {cn : Nat} {K N : Nat → Nat} {I0 : cz_I} {R0 : cz_R} {L0 : cz_L} {d : Int} (hW0 : Wf T cn K N I0 R0 d) {a0 : Nat} (ta0 : T a0 = 1) {x1 : Int32} : ConE l mX10_size [.ref a0, .int x1] cn K N I0 R0 L0 (ca_i (fun v cn' K' N' I' R' L' => cn = cn' ∧ K = K' ∧ N = N' ∧ I0 = I' ∧ R0 = R' ∧ L0 = L' ∧ True)) := by
  refine ConE.of (by decide +kernel) rfl (Nat.le_of_ble_eq_true rfl) rfl (fun X hX hZ hE => ?_)
  subst hX
  refine tr_iload_n dX10_size_0 rfl ?_
  by_cases h1 : x1.toInt = 0
  · skip
    refine tr_tabIn (off := 67) 68 dX10_size_1 (by omega) (by omega) (by rw [h1]; decide +kernel) (by decide) ?_
    refine tr_aload_n dX10_size_68 rfl ?_
    obtain ⟨a2, d3, ta2⟩ := rf1_2 hW0 ta0
    refine tr_getR dX10_size_69 fl10_16 (kR1 hW0 ta0) d3 ?_
    obtain ⟨v4, c5⟩ : ∃ v, I0 a2 0 = v := ⟨_, rfl⟩
    have b6 := iv2_0 hW0 ta2 c5
    refine q_getI dX10_size_72 fl10_146 (kR2 hW0 ta2) c5 ?_
    exact tr_iret hZ dX10_size_75 rfl (by decide) (by decide) ⟨v4, rfl, rfl, rfl, rfl, rfl, rfl, rfl, trivial⟩
  · skip
    by_cases h7 : x1.toInt = 1
    · skip
      refine tr_tabIn (off := 75) 76 dX10_size_1 (by omega) (by omega) (by rw [h7]; decide +kernel) (by decide) ?_
      refine tr_aload_n dX10_size_76 rfl ?_
      obtain ⟨a8, d9, ta8⟩ := rf1_2 hW0 ta0
      refine tr_getR dX10_size_77 fl10_16 (kR1 hW0 ta0) d9 ?_
      obtain ⟨v10, c11⟩ : ∃ v, I0 a8 1 = v := ⟨_, rfl⟩
      have b12 := iv2_1 hW0 ta8 c11
      refine q_getI dX10_size_80 fl10_332 (kR2 hW0 ta8) c11 ?_
      exact tr_iret hZ dX10_size_83 rfl (by decide) (by decide) ⟨v10, rfl, rfl, rfl, rfl, rfl, rfl, rfl, trivial⟩
    · skip
      by_cases h13 : x1.toInt = 2
      · skip
        refine tr_tabIn (off := 83) 84 dX10_size_1 (by omega) (by omega) (by rw [h13]; decide +kernel) (by decide) ?_
        refine tr_aload_n dX10_size_84 rfl ?_
        obtain ⟨a14, d15, ta14⟩ := rf1_2 hW0 ta0
        refine tr_getR dX10_size_85 fl10_16 (kR1 hW0 ta0) d15 ?_
        obtain ⟨v16, c17⟩ : ∃ v, I0 a14 3 = v := ⟨_, rfl⟩
        have b18 := iv2_3 hW0 ta14 c17
        refine q_getI dX10_size_88 fl10_311 (kR2 hW0 ta14) c17 ?_
        exact tr_iret hZ dX10_size_91 rfl (by decide) (by decide) ⟨v16, rfl, rfl, rfl, rfl, rfl, rfl, rfl, trivial⟩
      · skip
        by_cases h19 : x1.toInt = 3
        · skip
          refine tr_tabIn (off := 91) 92 dX10_size_1 (by omega) (by omega) (by rw [h19]; decide +kernel) (by decide) ?_
          refine tr_aload_n dX10_size_92 rfl ?_
          obtain ⟨a20, d21, ta20⟩ := rf1_6 hW0 ta0
          refine tr_getR dX10_size_93 fl10_35 (kR1 hW0 ta0) d21 ?_
          obtain ⟨v22, c23⟩ : ∃ v, I0 a20 2 = v := ⟨_, rfl⟩
          have b24 := iv8_2 hW0 ta20 c23
          refine q_getI dX10_size_96 fl10_272 (kR8 hW0 ta20) c23 ?_
          exact tr_iret hZ dX10_size_99 rfl (by decide) (by decide) ⟨v22, rfl, rfl, rfl, rfl, rfl, rfl, rfl, trivial⟩
        · skip
          by_cases h25 : x1.toInt = 4
          · skip
            refine tr_tabIn (off := 99) 100 dX10_size_1 (by omega) (by omega) (by rw [h25]; decide +kernel) (by decide) ?_
            refine tr_aload_n dX10_size_100 rfl ?_
            obtain ⟨a26, d27, ta26⟩ := rf1_2 hW0 ta0
            refine tr_getR dX10_size_101 fl10_16 (kR1 hW0 ta0) d27 ?_
            obtain ⟨v28, c29⟩ : ∃ v, I0 a26 5 = v := ⟨_, rfl⟩
            have b30 := iv2_5 hW0 ta26 c29
            refine q_getI dX10_size_104 fl10_106 (kR2 hW0 ta26) c29 ?_
            exact tr_iret hZ dX10_size_107 rfl (by decide) (by decide) ⟨v28, rfl, rfl, rfl, rfl, rfl, rfl, rfl, trivial⟩
          · skip
            by_cases h31 : x1.toInt = 5
            · skip
              refine tr_tabIn (off := 107) 108 dX10_size_1 (by omega) (by omega) (by rw [h31]; decide +kernel) (by decide) ?_
              refine tr_aload_n dX10_size_108 rfl ?_
              obtain ⟨a32, d33, ta32⟩ := rf1_2 hW0 ta0
              refine tr_getR dX10_size_109 fl10_16 (kR1 hW0 ta0) d33 ?_
              obtain ⟨v34, c35⟩ : ∃ v, I0 a32 9 = v := ⟨_, rfl⟩
              have b36 := iv2_9 hW0 ta32 c35
              refine q_getI dX10_size_112 fl10_335 (kR2 hW0 ta32) c35 ?_
              exact tr_iret hZ dX10_size_115 rfl (by decide) (by decide) ⟨v34, rfl, rfl, rfl, rfl, rfl, rfl, rfl, trivial⟩
            · skip
              by_cases h37 : x1.toInt = 6
              · skip
                refine tr_tabIn (off := 115) 116 dX10_size_1 (by omega) (by omega) (by rw [h37]; decide +kernel) (by decide) ?_
                refine tr_aload_n dX10_size_116 rfl ?_
                obtain ⟨a38, d39, ta38⟩ := rf1_2 hW0 ta0
                refine tr_getR dX10_size_117 fl10_16 (kR1 hW0 ta0) d39 ?_
                obtain ⟨v40, c41⟩ : ∃ v, I0 a38 11 = v := ⟨_, rfl⟩
                have b42 := iv2_11 hW0 ta38 c41
                refine q_getI dX10_size_120 fl10_278 (kR2 hW0 ta38) c41 ?_
                exact tr_iret hZ dX10_size_123 rfl (by decide) (by decide) ⟨v40, rfl, rfl, rfl, rfl, rfl, rfl, rfl, trivial⟩
              · skip
                by_cases h43 : x1.toInt = 7
                · skip
                  refine tr_tabIn (off := 123) 124 dX10_size_1 (by omega) (by omega) (by rw [h43]; decide +kernel) (by decide) ?_
                  refine tr_aload_n dX10_size_124 rfl ?_
                  obtain ⟨a44, d45, ta44⟩ := rf1_2 hW0 ta0
                  refine tr_getR dX10_size_125 fl10_16 (kR1 hW0 ta0) d45 ?_
                  obtain ⟨v46, c47⟩ : ∃ v, I0 a44 13 = v := ⟨_, rfl⟩
                  have b48 := iv2_13 hW0 ta44 c47
                  refine q_getI dX10_size_128 fl10_338 (kR2 hW0 ta44) c47 ?_
                  exact tr_iret hZ dX10_size_131 rfl (by decide) (by decide) ⟨v46, rfl, rfl, rfl, rfl, rfl, rfl, rfl, trivial⟩
                · skip
                  by_cases h49 : x1.toInt = 8
                  · skip
                    refine tr_tabIn (off := 131) 132 dX10_size_1 (by omega) (by omega) (by rw [h49]; decide +kernel) (by decide) ?_
                    refine tr_aload_n dX10_size_132 rfl ?_
                    obtain ⟨a50, d51, ta50⟩ := rf1_2 hW0 ta0
                    refine tr_getR dX10_size_133 fl10_16 (kR1 hW0 ta0) d51 ?_
                    obtain ⟨a52, d53, ta52⟩ := rf2_8 hW0 ta50
                    refine tr_getR dX10_size_136 fl10_341 (kR2 hW0 ta50) d53 ?_
                    obtain ⟨v54, c55⟩ : ∃ v, I0 a52 0 = v := ⟨_, rfl⟩
                    have b56 := iv6_0 hW0 ta52 c55
                    refine q_getI dX10_size_139 fl10_345 (kR6 hW0 ta52) c55 ?_
                    exact tr_iret hZ dX10_size_142 rfl (by decide) (by decide) ⟨v54, rfl, rfl, rfl, rfl, rfl, rfl, rfl, trivial⟩
                  · skip
                    by_cases h57 : x1.toInt = 9
                    · skip
                      refine tr_tabIn (off := 142) 143 dX10_size_1 (by omega) (by omega) (by rw [h57]; decide +kernel) (by decide) ?_
                      refine tr_aload_n dX10_size_143 rfl ?_
                      obtain ⟨a58, d59, ta58⟩ := rf1_6 hW0 ta0
                      refine tr_getR dX10_size_144 fl10_35 (kR1 hW0 ta0) d59 ?_
                      obtain ⟨v60, c61⟩ : ∃ v, I0 a58 1 = v := ⟨_, rfl⟩
                      have b62 := iv8_1 hW0 ta58 c61
                      refine q_getI dX10_size_147 fl10_269 (kR8 hW0 ta58) c61 ?_
                      exact tr_iret hZ dX10_size_150 rfl (by decide) (by decide) ⟨v60, rfl, rfl, rfl, rfl, rfl, rfl, rfl, trivial⟩
                    · skip
                      by_cases h63 : x1.toInt = 10
                      · skip
                        refine tr_tabIn (off := 150) 151 dX10_size_1 (by omega) (by omega) (by rw [h63]; decide +kernel) (by decide) ?_
                        refine tr_aload_n dX10_size_151 rfl ?_
                        obtain ⟨a64, d65, ta64⟩ := rf1_7 hW0 ta0
                        refine tr_getR dX10_size_152 fl10_42 (kR1 hW0 ta0) d65 ?_
                        obtain ⟨v66, c67⟩ : ∃ v, I0 a64 0 = v := ⟨_, rfl⟩
                        have b68 := iv11_0 hW0 ta64 c67
                        refine q_getI dX10_size_155 fl10_350 (kR11 hW0 ta64) c67 ?_
                        exact tr_iret hZ dX10_size_158 rfl (by decide) (by decide) ⟨v66, rfl, rfl, rfl, rfl, rfl, rfl, rfl, trivial⟩
                      · skip
                        by_cases h69 : x1.toInt = 11
                        · skip
                          refine tr_tabIn (off := 158) 159 dX10_size_1 (by omega) (by omega) (by rw [h69]; decide +kernel) (by decide) ?_
                          refine tr_aload_n dX10_size_159 rfl ?_
                          obtain ⟨a70, d71, ta70⟩ := rf1_7 hW0 ta0
                          refine tr_getR dX10_size_160 fl10_42 (kR1 hW0 ta0) d71 ?_
                          obtain ⟨v72, c73⟩ : ∃ v, I0 a70 2 = v := ⟨_, rfl⟩
                          have b74 := iv11_2 hW0 ta70 c73
                          refine q_getI dX10_size_163 fl10_353 (kR11 hW0 ta70) c73 ?_
                          exact tr_iret hZ dX10_size_166 rfl (by decide) (by decide) ⟨v72, rfl, rfl, rfl, rfl, rfl, rfl, rfl, trivial⟩
                        · skip
                          by_cases h75 : x1.toInt = 12
                          · skip
                            refine tr_tabIn (off := 166) 167 dX10_size_1 (by omega) (by omega) (by rw [h75]; decide +kernel) (by decide) ?_
                            refine tr_aload_n dX10_size_167 rfl ?_
                            obtain ⟨v76, c77⟩ : ∃ v, I0 a0 1 = v := ⟨_, rfl⟩
                            have b78 := iv1_1 hW0 ta0 c77
                            refine q_getI dX10_size_168 fl10_71 (kR1 hW0 ta0) c77 ?_
                            exact tr_iret hZ dX10_size_171 rfl (by decide) (by decide) ⟨v76, rfl, rfl, rfl, rfl, rfl, rfl, rfl, trivial⟩
                          · skip
                            refine tr_tabOut 172 dX10_size_1 (by omega) (by decide) ?_
                            refine q_iconst dX10_size_172 (by decide) ?_
                            intro v79 h80
                            exact tr_iret hZ dX10_size_173 rfl (by decide) (by decide) ⟨v79, rfl, rfl, rfl, rfl, rfl, rfl, rfl, trivial⟩
set_option maxHeartbeats 4000000 in
theorem k_X10_trouble {l : Launch} {T : Nat → Nat} {cn : Nat} {K N : Nat → Nat} {I0 : cz_I} {R0 : cz_R} {L0 : cz_L} {d : Int} (hW0 : Wf T cn K N I0 R0 d) {a0 : Nat} (ta0 : T a0 = 1) : ConE l mX10_trouble [.ref a0] cn K N I0 R0 L0 (ca_i (fun v cn' K' N' I' R' L' => cn = cn' ∧ K = K' ∧ N = N' ∧ I0 = I' ∧ R0 = R' ∧ L0 = L' ∧ True)) := by
  refine ConE.of (by decide +kernel) rfl (Nat.le_of_ble_eq_true rfl) rfl (fun X hX hZ hE => ?_)
  subst hX
  refine tr_aload_n dX10_trouble_0 rfl ?_
  obtain ⟨v1, c2⟩ : ∃ v, I0 a0 17 = v := ⟨_, rfl⟩
  refine q_getI dX10_trouble_1 fl10_112 (kR1 hW0 ta0) c2 ?_
  exact tr_iret hZ dX10_trouble_4 rfl (by decide) (by decide) ⟨v1, rfl, rfl, rfl, rfl, rfl, rfl, rfl, trivial⟩
