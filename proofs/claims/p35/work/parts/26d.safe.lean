def wi_X12_goes : List Nat := [5631, 5695, 5759, 5823, 5887, 5951, 6015]
def wr_X12_goes : List Nat := []
set_option maxHeartbeats 4000000 in
theorem k_X12_goes {l : Launch} {T : Nat → Nat} {cn : Nat} {K N : Nat → Nat} {I0 : cz_I} {R0 : cz_R} {L0 : cz_L} {d : Int} (hW0 : Wf T cn K N I0 R0 d) {a0 : Nat} (ta0 : T a0 = 15) {x1 : Int32} {x2 : Int32} (nn3 : ∃ b, R0 a0 3 = some b) : ConE l mX12_goes [.ref a0, .int x1, .int x2] cn K N I0 R0 L0 (ca_i (fun v cn' K' N' I' R' L' => cn = cn' ∧ K = K' ∧ N = N' ∧ R0 = R' ∧ L0 = L' ∧ St T cn K N d wi_X12_goes wr_X12_goes I0 R0 I' R0 ∧ True)) := by
  refine ConE.of (by decide +kernel) rfl (Nat.le_of_ble_eq_true rfl) rfl (fun X hX hZ hE => ?_)
  subst hX
  have hS0 : St T cn K N d wi_X12_goes wr_X12_goes I0 R0 I0 R0 := St.rf0 hW0
  obtain ⟨a1, d2⟩ := nn3
  have ta1 : T a1 = 14 := hW0.rsN ta0 rfl d2
  refine q_iconst dX12_goes_0 (by decide) ?_
  intro v3 h4
  refine tr_istore_n dX12_goes_1 (by decide) (by decide) ?_
  have lp13 : ∀ (fu : Nat) (ls : Nat → Option Value) (v5 : Int32) (I10 : cz_I), ls 0 = some (.ref a0) → ls 1 = some (.int x1) → ls 2 = some (.int x2) → ls 3 = some (.int v5) → St T cn K N d wi_X12_goes wr_X12_goes I0 R0 I10 R0 → 0 ≤ v5.toInt → (-v5.toInt + 2147483647).toNat < fu → Tr X mX12_goes 2 ls [] cn K N I10 R0 L0 0 0 := by
    intro fu
    induction fu with
    | zero => intros; rename_i hz; exact absurd hz (Nat.not_lt_zero _)
    | succ fu ih13 =>
      intro ls v5 I10 hl6 hl7 hl8 hl9 hS11 g12 hm13
      refine tr_iload_n dX12_goes_2 hl9 ?_
      refine tr_aload_n dX12_goes_3 hl6 ?_
      refine tr_getR dX12_goes_4 fl12_385 (kR15 hS11.1 ta0) d2 ?_
      obtain ⟨v15, c16⟩ : ∃ v, I0 a1 4 = v := ⟨_, rfl⟩
      have b17 := iv14_4 hW0 ta1 c16
      refine q_getI dX12_goes_7 fl12_315 (kR14 hS11.1 ta1) ((hS11.cell ta1 (by decide +kernel)).trans c16) ?_
      refine q_icmp_ge 26 dX12_goes_10 (by decide) (fun h18 => ?_) (fun h18 => ?_)
      · skip
        refine q_iconst dX12_goes_26 (by decide) ?_
        intro v19 h20
        refine tr_istore_n dX12_goes_27 (by decide) (by decide) ?_
        have lp29 : ∀ (fu : Nat) (ls : Nat → Option Value) (v21 : Int32) (I26 : cz_I), ls 0 = some (.ref a0) → ls 1 = some (.int x1) → ls 2 = some (.int x2) → ls 3 = some (.int v21) → St T cn K N d wi_X12_goes wr_X12_goes I0 R0 I26 R0 → 0 ≤ v21.toInt → (-v21.toInt + 2147483647).toNat < fu → Tr X mX12_goes 28 ls [] cn K N I26 R0 L0 0 0 := by
          intro fu
          induction fu with
          | zero => intros; rename_i hz; exact absurd hz (Nat.not_lt_zero _)
          | succ fu ih29 =>
            intro ls v21 I26 hl22 hl23 hl24 hl25 hS27 g28 hm29
            refine tr_iload_n dX12_goes_28 hl25 ?_
            refine tr_aload_n dX12_goes_29 hl22 ?_
            refine tr_getR dX12_goes_30 fl12_385 (kR15 hS27.1 ta0) d2 ?_
            obtain ⟨v31, c32⟩ : ∃ v, I0 a1 3 = v := ⟨_, rfl⟩
            have b33 := iv14_3 hW0 ta1 c32
            refine q_getI dX12_goes_33 fl12_224 (kR14 hS27.1 ta1) ((hS27.cell ta1 (by decide +kernel)).trans c32) ?_
            refine q_icmp_ge 73 dX12_goes_36 (by decide) (fun h34 => ?_) (fun h34 => ?_)
            · skip
              refine q_iconst dX12_goes_73 (by decide) ?_
              intro v35 h36
              refine tr_istore_n dX12_goes_74 (by decide) (by decide) ?_
              have lp45 : ∀ (fu : Nat) (ls : Nat → Option Value) (v37 : Int32) (I42 : cz_I), ls 0 = some (.ref a0) → ls 1 = some (.int x1) → ls 2 = some (.int x2) → ls 3 = some (.int v37) → St T cn K N d wi_X12_goes wr_X12_goes I0 R0 I42 R0 → 0 ≤ v37.toInt → (-v37.toInt + 2147483647).toNat < fu → Tr X mX12_goes 75 ls [] cn K N I42 R0 L0 0 0 := by
                intro fu
                induction fu with
                | zero => intros; rename_i hz; exact absurd hz (Nat.not_lt_zero _)
                | succ fu ih45 =>
                  intro ls v37 I42 hl38 hl39 hl40 hl41 hS43 g44 hm45
                  refine tr_iload_n dX12_goes_75 hl41 ?_
                  refine tr_aload_n dX12_goes_76 hl38 ?_
                  refine tr_getR dX12_goes_77 fl12_385 (kR15 hS43.1 ta0) d2 ?_
                  obtain ⟨v47, c48⟩ : ∃ v, I0 a1 0 = v := ⟨_, rfl⟩
                  have b49 := hW0.2.2.2.2.2.1 a0 ta0 _ d2
                  rw [c48] at b49
                  have b50 := iv14_0 hW0 ta1 c48
                  refine q_getI dX12_goes_80 fl12_192 (kR14 hS43.1 ta1) ((hS43.cell ta1 (by decide +kernel)).trans c48) ?_
                  refine q_icmp_ge 219 dX12_goes_83 (by decide) (fun h51 => ?_) (fun h51 => ?_)
                  · skip
                    refine q_iconst dX12_goes_219 (by decide) ?_
                    intro v52 h53
                    refine tr_istore_n dX12_goes_220 (by decide) (by decide) ?_
                    refine q_iconst dX12_goes_221 (by decide) ?_
                    intro v54 h55
                    refine tr_istore dX12_goes_222 (by decide) (by decide) ?_
                    have lp66 : ∀ (fu : Nat) (ls : Nat → Option Value) (v56 : Int32) (v57 : Int32) (I63 : cz_I), ls 0 = some (.ref a0) → ls 1 = some (.int x1) → ls 2 = some (.int x2) → ls 3 = some (.int v56) → ls 4 = some (.int v57) → St T cn K N d wi_X12_goes wr_X12_goes I0 R0 I63 R0 → 0 ≤ v57.toInt → (-v57.toInt + 2147483647).toNat < fu → Tr X mX12_goes 224 ls [] cn K N I63 R0 L0 0 0 := by
                      intro fu
                      induction fu with
                      | zero => intros; rename_i hz; exact absurd hz (Nat.not_lt_zero _)
                      | succ fu ih66 =>
                        intro ls v56 v57 I63 hl58 hl59 hl60 hl61 hl62 hS64 g65 hm66
                        refine tr_iload dX12_goes_224 hl62 ?_
                        refine tr_aload_n dX12_goes_226 hl58 ?_
                        refine tr_getR dX12_goes_227 fl12_385 (kR15 hS64.1 ta0) d2 ?_
                        refine q_getI dX12_goes_230 fl12_224 (kR14 hS64.1 ta1) ((hS64.cell ta1 (by decide +kernel)).trans c32) ?_
                        refine q_icmp_ge 251 dX12_goes_233 (by decide) (fun h68 => ?_) (fun h68 => ?_)
                        · skip
                          refine q_iconst dX12_goes_251 (by decide) ?_
                          intro v69 h70
                          refine tr_istore dX12_goes_252 (by decide) (by decide) ?_
                          have lp81 : ∀ (fu : Nat) (ls : Nat → Option Value) (v71 : Int32) (v72 : Int32) (I78 : cz_I), ls 0 = some (.ref a0) → ls 1 = some (.int x1) → ls 2 = some (.int x2) → ls 3 = some (.int v71) → ls 4 = some (.int v72) → St T cn K N d wi_X12_goes wr_X12_goes I0 R0 I78 R0 → 0 ≤ v72.toInt → (-v72.toInt + 2147483647).toNat < fu → Tr X mX12_goes 254 ls [] cn K N I78 R0 L0 0 0 := by
                            intro fu
                            induction fu with
                            | zero => intros; rename_i hz; exact absurd hz (Nat.not_lt_zero _)
                            | succ fu ih81 =>
                              intro ls v71 v72 I78 hl73 hl74 hl75 hl76 hl77 hS79 g80 hm81
                              refine tr_iload dX12_goes_254 hl77 ?_
                              refine tr_aload_n dX12_goes_256 hl73 ?_
                              refine tr_getR dX12_goes_257 fl12_385 (kR15 hS79.1 ta0) d2 ?_
                              obtain ⟨v83, c84⟩ : ∃ v, I0 a1 5 = v := ⟨_, rfl⟩
                              have b85 := iv14_5 hW0 ta1 c84
                              refine q_getI dX12_goes_260 fl12_349 (kR14 hS79.1 ta1) ((hS79.cell ta1 (by decide +kernel)).trans c84) ?_
                              refine q_icmp_ge 298 dX12_goes_263 (by decide) (fun h86 => ?_) (fun h86 => ?_)
                              · skip
                                refine tr_iload_n dX12_goes_298 hl76 ?_
                                exact tr_iret hZ dX12_goes_299 rfl (by decide) (by decide) ⟨v71, rfl, rfl, rfl, rfl, rfl, rfl, hS79, trivial⟩
                              · skip
                                refine tr_iload_n dX12_goes_266 hl76 ?_
                                refine tr_iload_n dX12_goes_267 hl75 ?_
                                refine tr_iload dX12_goes_268 hl77 ?_
                                refine q_callSi hE (M' := mX12_has) (as := [_, _]) dX12_goes_270 lk12_329 inX12_has myX12_has ⟨by decide, by decide⟩ rfl (Nat.le_of_ble_eq_true rfl) rfl rfl (by decide) (by decide) (k_X12_has hS79.1 ) ?_
                                rintro v91 cn' K' N' I87 R88 L89 ⟨rfl, rfl, rfl, rfl, rfl, rfl, h92, -⟩
                                refine q_if_eq 289 dX12_goes_273 (by decide) (fun h93 => ?_) (fun h93 => ?_)
                                · skip
                                  refine q_iconst dX12_goes_289 (by decide) ?_
                                  intro v94 h95
                                  refine q_isubE dX12_goes_290 (by intro j1 j2 j3 j4; exact om_a14bfa22 h95 j1 j2) ?_
                                  intro v96 h97
                                  refine tr_istore_n dX12_goes_291 (by decide) (by decide) ?_
                                  refine q_iincE dX12_goes_292 hl77 (by decide) (by decide) (by intro j1 j2; exact om_1c62f9ff g80 b85.2 b85.1 h86 j2) ?_
                                  intro v98 h99
                                  refine tr_goto 254 dX12_goes_295 (by decide) ?_
                                  exact ih81 _ v96 v98 I78 hl73 hl74 hl75 rfl rfl hS79 (by exact om_68881c41 g80 h99) (by exact om_78718bb6 g80 hm81 b85.2 b85.1 h86 h99)
                                · skip
                                  refine tr_aload_n dX12_goes_276 hl73 ?_
                                  refine tr_getR dX12_goes_277 fl12_385 (kR15 hS79.1 ta0) d2 ?_
                                  obtain ⟨a100, d101, ta100⟩ := rf14_29 hW0 ta1
                                  refine tr_getR dX12_goes_280 fl12_367 (kR14 hS79.1 ta1) d101 ?_
                                  refine tr_iload dX12_goes_283 hl77 ?_
                                  refine q_iald dX12_goes_285 (kR72 hS79.1 ta100) (ti_in (nR72 hS79.1 ta100) (by exact om_2cfcd5a5 g80) (by exact om_2b874313 b85.2 b85.1 h86)) ?_
                                  intro v102 c103
                                  refine tr_goto 290 dX12_goes_286 (by decide) ?_
                                  refine q_isub dX12_goes_290 ?_
                                  intro v104
                                  refine tr_istore_n dX12_goes_291 (by decide) (by decide) ?_
                                  refine q_iincE dX12_goes_292 hl77 (by decide) (by decide) (by intro j1 j2; exact om_1c62f9ff g80 b85.2 b85.1 h86 j2) ?_
                                  intro v105 h106
                                  refine tr_goto 254 dX12_goes_295 (by decide) ?_
                                  exact ih81 _ v104 v105 I78 hl73 hl74 hl75 rfl rfl hS79 (by exact om_68881c41 g80 h106) (by exact om_a85bc5b3 g80 hm81 b85.2 b85.1 h86 h92.2 h92.1 h93 h106)
                          exact lp81 _ _ v56 v69 I63 hl58 hl59 hl60 hl61 rfl hS64 (by exact om_d99fa9e4 h70) (Nat.lt_succ_self _)
                        · skip
                          refine tr_iload_n dX12_goes_236 hl61 ?_
                          refine tr_aload_n dX12_goes_237 hl58 ?_
                          refine tr_iload dX12_goes_238 hl62 ?_
                          refine q_callVi hE (M' := mX12_priceOf) (as := [_]) dX12_goes_240 lk12_428 inX12_priceOf seX12_priceOf myX12_priceOf (by decide) ⟨by decide, by decide⟩ rfl (kR15 hS64.1 ta0) (Nat.le_of_ble_eq_true rfl) rfl rfl (by decide) (by decide) (k_X12_priceOf hS64.1 ta0 (by exact om_4f0007ed b33.2 b33.1 g65 h68) ⟨_, d2⟩) ?_
                          rintro v111 cn' K' N' I107 R108 L109 ⟨rfl, rfl, rfl, rfl, rfl, rfl, -⟩
                          refine q_iadd dX12_goes_243 ?_
                          intro v112
                          refine tr_istore_n dX12_goes_244 (by decide) (by decide) ?_
                          refine q_iincE dX12_goes_245 hl62 (by decide) (by decide) (by intro j1 j2; exact om_2e39f252 b33.2 b33.1 g65 h68 j2) ?_
                          intro v113 h114
                          refine tr_goto 224 dX12_goes_248 (by decide) ?_
                          exact ih66 _ v112 v113 I63 hl58 hl59 hl60 rfl rfl hS64 (by exact om_68881c41 g65 h114) (by exact om_a0b0b38b b33.2 b33.1 g65 hm66 h68 h114)
                    exact lp66 _ _ v52 v54 I42 hl38 hl39 hl40 rfl rfl hS43 (by exact om_d99fa9e4 h55) (Nat.lt_succ_self _)
                  · skip
                    refine q_iconst dX12_goes_86 (by decide) ?_
                    intro v115 h116
                    refine tr_istore dX12_goes_87 (by decide) (by decide) ?_
                    have lp126 : ∀ (fu : Nat) (ls : Nat → Option Value) (v117 : Int32) (I123 : cz_I), ls 0 = some (.ref a0) → ls 1 = some (.int x1) → ls 2 = some (.int x2) → ls 3 = some (.int v37) → ls 4 = some (.int v117) → St T cn K N d wi_X12_goes wr_X12_goes I0 R0 I123 R0 → 0 ≤ v117.toInt → (-v117.toInt + 2147483647).toNat < fu → Tr X mX12_goes 89 ls [] cn K N I123 R0 L0 0 0 := by
                      intro fu
                      induction fu with
                      | zero => intros; rename_i hz; exact absurd hz (Nat.not_lt_zero _)
                      | succ fu ih126 =>
                        intro ls v117 I123 hl118 hl119 hl120 hl121 hl122 hS124 g125 hm126
                        refine tr_iload dX12_goes_89 hl122 ?_
                        refine tr_aload_n dX12_goes_91 hl118 ?_
                        refine tr_getR dX12_goes_92 fl12_385 (kR15 hS124.1 ta0) d2 ?_
                        refine q_getI dX12_goes_95 fl12_224 (kR14 hS124.1 ta1) ((hS124.cell ta1 (by decide +kernel)).trans c32) ?_
                        refine q_icmp_ge 122 dX12_goes_98 (by decide) (fun h128 => ?_) (fun h128 => ?_)
                        · skip
                          refine q_iconst dX12_goes_122 (by decide) ?_
                          intro v129 h130
                          refine tr_istore dX12_goes_123 (by decide) (by decide) ?_
                          have lp140 : ∀ (fu : Nat) (ls : Nat → Option Value) (v131 : Int32) (I137 : cz_I), ls 0 = some (.ref a0) → ls 1 = some (.int x1) → ls 2 = some (.int x2) → ls 3 = some (.int v37) → ls 4 = some (.int v131) → St T cn K N d wi_X12_goes wr_X12_goes I0 R0 I137 R0 → 0 ≤ v131.toInt → (-v131.toInt + 2147483647).toNat < fu → Tr X mX12_goes 125 ls [] cn K N I137 R0 L0 0 0 := by
                            intro fu
                            induction fu with
                            | zero => intros; rename_i hz; exact absurd hz (Nat.not_lt_zero _)
                            | succ fu ih140 =>
                              intro ls v131 I137 hl132 hl133 hl134 hl135 hl136 hS138 g139 hm140
                              refine tr_iload dX12_goes_125 hl136 ?_
                              refine tr_aload_n dX12_goes_127 hl132 ?_
                              refine tr_getR dX12_goes_128 fl12_385 (kR15 hS138.1 ta0) d2 ?_
                              refine q_getI dX12_goes_131 fl12_315 (kR14 hS138.1 ta1) ((hS138.cell ta1 (by decide +kernel)).trans c16) ?_
                              refine q_icmp_ge 185 dX12_goes_134 (by decide) (fun h142 => ?_) (fun h142 => ?_)
                              · skip
                                refine q_iconst dX12_goes_185 (by decide) ?_
                                intro v143 h144
                                refine tr_istore dX12_goes_186 (by decide) (by decide) ?_
                                have lp154 : ∀ (fu : Nat) (ls : Nat → Option Value) (v145 : Int32) (I151 : cz_I), ls 0 = some (.ref a0) → ls 1 = some (.int x1) → ls 2 = some (.int x2) → ls 3 = some (.int v37) → ls 4 = some (.int v145) → St T cn K N d wi_X12_goes wr_X12_goes I0 R0 I151 R0 → 0 ≤ v145.toInt → (-v145.toInt + 2147483647).toNat < fu → Tr X mX12_goes 188 ls [] cn K N I151 R0 L0 0 0 := by
                                  intro fu
                                  induction fu with
                                  | zero => intros; rename_i hz; exact absurd hz (Nat.not_lt_zero _)
                                  | succ fu ih154 =>
                                    intro ls v145 I151 hl146 hl147 hl148 hl149 hl150 hS152 g153 hm154
                                    refine tr_iload dX12_goes_188 hl150 ?_
                                    refine tr_aload_n dX12_goes_190 hl146 ?_
                                    refine tr_getR dX12_goes_191 fl12_385 (kR15 hS152.1 ta0) d2 ?_
                                    refine q_getI dX12_goes_194 fl12_224 (kR14 hS152.1 ta1) ((hS152.cell ta1 (by decide +kernel)).trans c32) ?_
                                    refine q_icmp_ge 213 dX12_goes_197 (by decide) (fun h156 => ?_) (fun h156 => ?_)
                                    · skip
                                      refine q_iincE dX12_goes_213 hl149 (by decide) (by decide) (by intro j1 j2; exact om_851a16a6 g44 b49 b50.2 h51 j2) ?_
                                      intro v157 h158
                                      refine tr_goto 75 dX12_goes_216 (by decide) ?_
                                      exact ih45 _ v157 I151 hl146 hl147 hl148 rfl hS152 (by exact om_68881c41 g44 h158) (by exact om_bdc53839 g44 hm45 b49 b50.2 h51 h158)
                                    · skip
                                      refine tr_aload_n dX12_goes_200 hl146 ?_
                                      refine tr_iload dX12_goes_201 hl150 ?_
                                      refine tr_iload_n dX12_goes_203 hl149 ?_
                                      refine q_callVv hE (M' := mX12_notes) (as := [_, _]) dX12_goes_204 lk12_425 inX12_notes seX12_notes myX12_notes (by decide) ⟨by decide, by decide⟩ rfl (kR15 hS152.1 ta0) (Nat.le_of_ble_eq_true rfl) rfl rfl (by decide) (by decide) (k_X12_notes hS152.1 ta0 (by exact om_4f0007ed b33.2 b33.1 g153 h156) (by exact om_7b69baed g44 b49 b50.2 h51) ⟨_, d2⟩) ?_
                                      rintro cn' K' N' I159 R160 L161 ⟨rfl, rfl, rfl, rfl, rfl, g162, -⟩
                                      have hS164 := hS152.tr g162 (by decide +kernel) (by decide +kernel)
                                      refine q_iincE dX12_goes_207 hl150 (by decide) (by decide) (by intro j1 j2; exact om_2e39f252 b33.2 b33.1 g153 h156 j2) ?_
                                      intro v165 h166
                                      refine tr_goto 188 dX12_goes_210 (by decide) ?_
                                      exact ih154 _ v165 I159 hl146 hl147 hl148 hl149 rfl hS164 (by exact om_68881c41 g153 h166) (by exact om_a0b0b38b b33.2 b33.1 g153 hm154 h156 h166)
                                exact lp154 _ _ v143 I137 hl132 hl133 hl134 hl135 rfl hS138 (by exact om_d99fa9e4 h144) (Nat.lt_succ_self _)
                              · skip
                                refine tr_iload_n dX12_goes_137 hl135 ?_
                                refine q_if_le 185 dX12_goes_138 (by decide) (fun h167 => ?_) (fun h167 => ?_)
                                · skip
                                  refine q_iconst dX12_goes_185 (by decide) ?_
                                  intro v168 h169
                                  refine tr_istore dX12_goes_186 (by decide) (by decide) ?_
                                  have lp179 : ∀ (fu : Nat) (ls : Nat → Option Value) (v170 : Int32) (I176 : cz_I), ls 0 = some (.ref a0) → ls 1 = some (.int x1) → ls 2 = some (.int x2) → ls 3 = some (.int v37) → ls 4 = some (.int v170) → St T cn K N d wi_X12_goes wr_X12_goes I0 R0 I176 R0 → 0 ≤ v170.toInt → (-v170.toInt + 2147483647).toNat < fu → Tr X mX12_goes 188 ls [] cn K N I176 R0 L0 0 0 := by
                                    intro fu
                                    induction fu with
                                    | zero => intros; rename_i hz; exact absurd hz (Nat.not_lt_zero _)
                                    | succ fu ih179 =>
                                      intro ls v170 I176 hl171 hl172 hl173 hl174 hl175 hS177 g178 hm179
                                      refine tr_iload dX12_goes_188 hl175 ?_
                                      refine tr_aload_n dX12_goes_190 hl171 ?_
                                      refine tr_getR dX12_goes_191 fl12_385 (kR15 hS177.1 ta0) d2 ?_
                                      refine q_getI dX12_goes_194 fl12_224 (kR14 hS177.1 ta1) ((hS177.cell ta1 (by decide +kernel)).trans c32) ?_
                                      refine q_icmp_ge 213 dX12_goes_197 (by decide) (fun h181 => ?_) (fun h181 => ?_)
                                      · skip
                                        refine q_iincE dX12_goes_213 hl174 (by decide) (by decide) (by intro j1 j2; exact om_a1a24d04 g44 h167) ?_
                                        intro v182 h183
                                        refine tr_goto 75 dX12_goes_216 (by decide) ?_
                                        exact ih45 _ v182 I176 hl171 hl172 hl173 rfl hS177 (by exact om_7396b0f0 g44 h167 h183) (by exact om_cb2c219f b17.2 b17.1 g44 hm45 h142 h167 h183)
                                      · skip
                                        refine tr_aload_n dX12_goes_200 hl171 ?_
                                        refine tr_iload dX12_goes_201 hl175 ?_
                                        refine tr_iload_n dX12_goes_203 hl174 ?_
                                        refine q_callVv hE (M' := mX12_notes) (as := [_, _]) dX12_goes_204 lk12_425 inX12_notes seX12_notes myX12_notes (by decide) ⟨by decide, by decide⟩ rfl (kR15 hS177.1 ta0) (Nat.le_of_ble_eq_true rfl) rfl rfl (by decide) (by decide) (k_X12_notes hS177.1 ta0 (by exact om_4f0007ed b33.2 b33.1 g178 h181) (by exact om_f32fb4ab g44 h167) ⟨_, d2⟩) ?_
                                        rintro cn' K' N' I184 R185 L186 ⟨rfl, rfl, rfl, rfl, rfl, g187, -⟩
                                        have hS189 := hS177.tr g187 (by decide +kernel) (by decide +kernel)
                                        refine q_iincE dX12_goes_207 hl175 (by decide) (by decide) (by intro j1 j2; exact om_2e39f252 b33.2 b33.1 g178 h181 j2) ?_
                                        intro v190 h191
                                        refine tr_goto 188 dX12_goes_210 (by decide) ?_
                                        exact ih179 _ v190 I184 hl171 hl172 hl173 hl174 rfl hS189 (by exact om_68881c41 g178 h191) (by exact om_a0b0b38b b33.2 b33.1 g178 hm179 h181 h191)
                                  exact lp179 _ _ v168 I137 hl132 hl133 hl134 hl135 rfl hS138 (by exact om_d99fa9e4 h169) (Nat.lt_succ_self _)
                                · skip
                                  refine tr_iload_n dX12_goes_141 hl133 ?_
                                  refine tr_iload dX12_goes_142 hl136 ?_
                                  refine q_callSi hE (M' := mX12_has) (as := [_, _]) dX12_goes_144 lk12_329 inX12_has myX12_has ⟨by decide, by decide⟩ rfl (Nat.le_of_ble_eq_true rfl) rfl rfl (by decide) (by decide) (k_X12_has hS138.1 ) ?_
                                  rintro v196 cn' K' N' I192 R193 L194 ⟨rfl, rfl, rfl, rfl, rfl, rfl, h197, -⟩
                                  refine q_if_eq 179 dX12_goes_147 (by decide) (fun h198 => ?_) (fun h198 => ?_)
                                  · skip
                                    refine q_iincE dX12_goes_179 hl136 (by decide) (by decide) (by intro j1 j2; exact om_a109028e b17.2 b17.1 g139 h142 j2) ?_
                                    intro v199 h200
                                    refine tr_goto 125 dX12_goes_182 (by decide) ?_
                                    exact ih140 _ v199 I137 hl132 hl133 hl134 hl135 rfl hS138 (by exact om_68881c41 g139 h200) (by exact om_3327ee07 b17.2 b17.1 g139 hm140 h142 h200)
                                  · skip
                                    refine tr_aload_n dX12_goes_150 hl132 ?_
                                    obtain ⟨a201, d202, ta201⟩ := rf15_28 hW0 ta0
                                    refine tr_getR dX12_goes_151 fl12_49 (kR15 hS138.1 ta0) d202 ?_
                                    refine tr_iload dX12_goes_154 hl136 ?_
                                    refine q_iald dX12_goes_156 (kR88 hS138.1 ta201) (ti_in (nR88 hS138.1 ta201) (by exact om_2cfcd5a5 g139) (by exact om_6a9b8aca b17.2 b17.1 h142)) ?_
                                    intro v203 c204
                                    refine tr_iload_n dX12_goes_157 hl135 ?_
                                    refine q_icmp_gt 179 dX12_goes_158 (by decide) (fun h205 => ?_) (fun h205 => ?_)
                                    · skip
                                      refine q_iincE dX12_goes_179 hl136 (by decide) (by decide) (by intro j1 j2; exact om_a109028e b17.2 b17.1 g139 h142 j2) ?_
                                      intro v206 h207
                                      refine tr_goto 125 dX12_goes_182 (by decide) ?_
                                      exact ih140 _ v206 I137 hl132 hl133 hl134 hl135 rfl hS138 (by exact om_68881c41 g139 h207) (by exact om_85fd1603 b17.2 b17.1 g139 hm140 h142 h197.2 h197.1 h198 h207)
                                    · skip
                                      refine tr_aload_n dX12_goes_161 hl132 ?_
                                      refine tr_iload dX12_goes_162 hl136 ?_
                                      refine tr_iload_n dX12_goes_164 hl135 ?_
                                      refine tr_iload_n dX12_goes_165 hl134 ?_
                                      refine q_callVi hE (M' := mX12_isAwake) (as := [_, _, _]) dX12_goes_166 lk12_419 inX12_isAwake seX12_isAwake myX12_isAwake (by decide) ⟨by decide, by decide⟩ rfl (kR15 hS138.1 ta0) (Nat.le_of_ble_eq_true rfl) rfl rfl (by decide) (by decide) (k_X12_isAwake hS138.1 ta0 (by exact om_8df2f791 b17.2 b17.1 g139 h142) (by exact om_f02db16c b49 b50.2 h51 h167) ⟨_, d2⟩) ?_
                                      rintro v212 cn' K' N' I208 R209 L210 ⟨rfl, rfl, rfl, rfl, rfl, rfl, h213, -⟩
                                      refine q_if_eq 179 dX12_goes_169 (by decide) (fun h214 => ?_) (fun h214 => ?_)
                                      · skip
                                        refine q_iincE dX12_goes_179 hl136 (by decide) (by decide) (by intro j1 j2; exact om_a109028e b17.2 b17.1 g139 h142 j2) ?_
                                        intro v215 h216
                                        refine tr_goto 125 dX12_goes_182 (by decide) ?_
                                        exact ih140 _ v215 I137 hl132 hl133 hl134 hl135 rfl hS138 (by exact om_68881c41 g139 h216) (by exact om_85fd1603 b17.2 b17.1 g139 hm140 h142 h197.2 h197.1 h198 h216)
                                      · skip
                                        refine tr_aload_n dX12_goes_172 hl132 ?_
                                        refine tr_iload dX12_goes_173 hl136 ?_
                                        refine tr_iload_n dX12_goes_175 hl135 ?_
                                        refine q_callVv hE (M' := mX12_turns) (as := [_, _]) dX12_goes_176 lk12_422 inX12_turns seX12_turns myX12_turns (by decide) ⟨by decide, by decide⟩ rfl (kR15 hS138.1 ta0) (Nat.le_of_ble_eq_true rfl) rfl rfl (by decide) (by decide) (k_X12_turns hS138.1 ta0 (by exact om_8df2f791 b17.2 b17.1 g139 h142) (by exact om_f02db16c b49 b50.2 h51 h167) ⟨_, d2⟩) ?_
                                        rintro cn' K' N' I217 R218 L219 ⟨rfl, rfl, rfl, rfl, rfl, g220, -⟩
                                        have hS222 := hS138.tr g220 (by decide +kernel) (by decide +kernel)
                                        refine q_iincE dX12_goes_179 hl136 (by decide) (by decide) (by intro j1 j2; exact om_a109028e b17.2 b17.1 g139 h142 j2) ?_
                                        intro v223 h224
                                        refine tr_goto 125 dX12_goes_182 (by decide) ?_
                                        exact ih140 _ v223 I217 hl132 hl133 hl134 hl135 rfl hS222 (by exact om_68881c41 g139 h224) (by exact om_b07b25da b17.2 b17.1 g139 hm140 h142 h197.2 h197.1 h198 h213.2 h213.1 h214 h224)
                          exact lp140 _ _ v129 I123 hl118 hl119 hl120 hl121 rfl hS124 (by exact om_d99fa9e4 h130) (Nat.lt_succ_self _)
                        · skip
                          refine tr_aload_n dX12_goes_101 hl118 ?_
                          obtain ⟨a225, d226, ta225⟩ := rf15_27 hW0 ta0
                          refine tr_getR dX12_goes_102 fl12_46 (kR15 hS124.1 ta0) d226 ?_
                          refine q_sipush dX12_goes_105 (by decide +kernel) ?_
                          intro v227 h228
                          refine tr_iload dX12_goes_108 hl122 ?_
                          refine q_imulE (c := 240) dX12_goes_110 (by exact om_0c59d38e h228) (by exact om_1a98adfa b33.2 b33.1 g125 h128) ?_
                          intro v229 h230
                          refine tr_iload_n dX12_goes_111 hl121 ?_
                          refine q_iaddE dX12_goes_112 (by intro j1 j2 j3 j4; exact om_05e23ee4 b33.2 b33.1 g44 b49 b50.2 h51 g125 h128 h230 j1 j2 j4) ?_
                          intro v231 h232
                          refine q_bipush dX12_goes_113 (by decide +kernel) ?_
                          intro v233 h234
                          refine q_iast dX12_goes_115 (kR87 hS124.1 ta225) (ti_in (nR87 hS124.1 ta225) (by exact om_e09ed800 b33.2 b33.1 g44 b49 b50.2 h51 g125 h128 h230 h232) (by exact om_cb1f3fb7 b33.2 b33.1 g44 b49 b50.2 h51 g125 h128 h230 h232)) hS124 ta225 (iokF rfl) rfl (by rfl) ?_
                          intro I235 hS236 e238 f237
                          refine q_iincE dX12_goes_116 hl122 (by decide) (by decide) (by intro j1 j2; exact om_2e39f252 b33.2 b33.1 g125 h128 j2) ?_
                          intro v239 h240
                          refine tr_goto 89 dX12_goes_119 (by decide) ?_
                          exact ih126 _ v239 I235 hl118 hl119 hl120 hl121 rfl hS236 (by exact om_68881c41 g125 h240) (by exact om_a0b0b38b b33.2 b33.1 g125 hm126 h128 h240)
                    exact lp126 _ _ v115 I42 hl38 hl39 hl40 hl41 rfl hS43 (by exact om_d99fa9e4 h116) (Nat.lt_succ_self _)
              exact lp45 _ _ v35 I26 hl22 hl23 hl24 rfl hS27 (by exact om_d99fa9e4 h36) (Nat.lt_succ_self _)
            · skip
              refine tr_aload_n dX12_goes_39 hl22 ?_
              obtain ⟨a241, d242, ta241⟩ := rf15_29 hW0 ta0
              refine tr_getR dX12_goes_40 fl12_52 (kR15 hS27.1 ta0) d242 ?_
              refine tr_iload_n dX12_goes_43 hl25 ?_
              refine q_iconst dX12_goes_44 (by decide) ?_
              intro v243 h244
              refine q_iast dX12_goes_45 (kR89 hS27.1 ta241) (ti_in (nR89 hS27.1 ta241) (by exact om_2cfcd5a5 g28) (by exact om_5f13cc30 b33.2 b33.1 h34)) hS27 ta241 (iokF rfl) rfl (by rfl) ?_
              intro I245 hS246 e248 f247
              refine tr_aload_n dX12_goes_46 hl22 ?_
              obtain ⟨a249, d250, ta249⟩ := rf15_30 hW0 ta0
              refine tr_getR dX12_goes_47 fl12_55 (kR15 hS246.1 ta0) d250 ?_
              refine tr_iload_n dX12_goes_50 hl25 ?_
              refine q_iconst dX12_goes_51 (by decide) ?_
              intro v251 h252
              refine q_iast dX12_goes_52 (kR90 hS246.1 ta249) (ti_in (nR90 hS246.1 ta249) (by exact om_2cfcd5a5 g28) (by exact om_5f13cc30 b33.2 b33.1 h34)) hS246 ta249 (iokF rfl) rfl (by rfl) ?_
              intro I253 hS254 e256 f255
              refine tr_aload_n dX12_goes_53 hl22 ?_
              obtain ⟨a257, d258, ta257⟩ := rf15_31 hW0 ta0
              refine tr_getR dX12_goes_54 fl12_58 (kR15 hS254.1 ta0) d258 ?_
              refine tr_iload_n dX12_goes_57 hl25 ?_
              refine q_iconst dX12_goes_58 (by decide) ?_
              intro v259 h260
              refine q_iast dX12_goes_59 (kR91 hS254.1 ta257) (ti_in (nR91 hS254.1 ta257) (by exact om_2cfcd5a5 g28) (by exact om_5f13cc30 b33.2 b33.1 h34)) hS254 ta257 (iokF rfl) rfl (by rfl) ?_
              intro I261 hS262 e264 f263
              refine tr_aload_n dX12_goes_60 hl22 ?_
              obtain ⟨a265, d266, ta265⟩ := rf15_32 hW0 ta0
              refine tr_getR dX12_goes_61 fl12_61 (kR15 hS262.1 ta0) d266 ?_
              refine tr_iload_n dX12_goes_64 hl25 ?_
              refine q_iconst dX12_goes_65 (by decide) ?_
              intro v267 h268
              refine q_iast dX12_goes_66 (kR92 hS262.1 ta265) (ti_in (nR92 hS262.1 ta265) (by exact om_2cfcd5a5 g28) (by exact om_5f13cc30 b33.2 b33.1 h34)) hS262 ta265 (iokF rfl) rfl (by rfl) ?_
              intro I269 hS270 e272 f271
              refine q_iincE dX12_goes_67 hl25 (by decide) (by decide) (by intro j1 j2; exact om_4034714d g28 b33.2 b33.1 h34 j2) ?_
              intro v273 h274
              refine tr_goto 28 dX12_goes_70 (by decide) ?_
              exact ih29 _ v273 I269 hl22 hl23 hl24 rfl hS270 (by exact om_68881c41 g28 h274) (by exact om_fc025699 g28 hm29 b33.2 b33.1 h34 h274)
        exact lp29 _ _ v19 I10 hl6 hl7 hl8 rfl hS11 (by exact om_d99fa9e4 h20) (Nat.lt_succ_self _)
      · skip
        refine tr_aload_n dX12_goes_13 hl6 ?_
        obtain ⟨a275, d276, ta275⟩ := rf15_28 hW0 ta0
        refine tr_getR dX12_goes_14 fl12_49 (kR15 hS11.1 ta0) d276 ?_
        refine tr_iload_n dX12_goes_17 hl9 ?_
        refine q_iconst dX12_goes_18 (by decide) ?_
        intro v277 h278
        refine q_iast dX12_goes_19 (kR88 hS11.1 ta275) (ti_in (nR88 hS11.1 ta275) (by exact om_2cfcd5a5 g12) (by exact om_6a9b8aca b17.2 b17.1 h18)) hS11 ta275 (iokF rfl) rfl (by rfl) ?_
        intro I279 hS280 e282 f281
        refine q_iincE dX12_goes_20 hl9 (by decide) (by decide) (by intro j1 j2; exact om_c1b4185f g12 b17.2 b17.1 h18 j2) ?_
        intro v283 h284
        refine tr_goto 2 dX12_goes_23 (by decide) ?_
        exact ih13 _ v283 I279 hl6 hl7 hl8 rfl hS280 (by exact om_68881c41 g12 h284) (by exact om_834a4d47 g12 hm13 b17.2 b17.1 h18 h284)
  exact lp13 _ _ v3 I0 rfl rfl rfl rfl hS0 (by exact om_d99fa9e4 h4) (Nat.lt_succ_self _)
def wi_X12_tonight : List Nat := [5247, 5311, 5375, 5439, 5503, 5567, 5631, 5695, 5759, 5823, 5887, 5951, 6015]
def wr_X12_tonight : List Nat := []
set_option maxHeartbeats 4000000 in
theorem k_X12_tonight {l : Launch} {T : Nat → Nat} {cn : Nat} {K N : Nat → Nat} {I0 : cz_I} {R0 : cz_R} {L0 : cz_L} {d : Int} (hW0 : Wf T cn K N I0 R0 d) {a0 : Nat} (ta0 : T a0 = 15) (nn3 : ∃ b, R0 a0 3 = some b) : ConE l mX12_tonight [.ref a0] cn K N I0 R0 L0 (ca_i (fun v cn' K' N' I' R' L' => cn = cn' ∧ K = K' ∧ N = N' ∧ R0 = R' ∧ L0 = L' ∧ St T cn K N d wi_X12_tonight wr_X12_tonight I0 R0 I' R0 ∧ True)) := by
  refine ConE.of (by decide +kernel) rfl (Nat.le_of_ble_eq_true rfl) rfl (fun X hX hZ hE => ?_)
  subst hX
  have hS0 : St T cn K N d wi_X12_tonight wr_X12_tonight I0 R0 I0 R0 := St.rf0 hW0
  obtain ⟨a1, d2⟩ := nn3
  have ta1 : T a1 = 14 := hW0.rsN ta0 rfl d2
  refine tr_aload_n dX12_tonight_0 rfl ?_
  refine q_iconst dX12_tonight_1 (by decide) ?_
  intro v3 h4
  refine q_callVv hE (M' := mX12_laysLight) (as := [_]) dX12_tonight_2 lk12_434 inX12_laysLight seX12_laysLight myX12_laysLight (by decide) ⟨by decide, by decide⟩ rfl (kR15 hS0.1 ta0) (Nat.le_of_ble_eq_true rfl) rfl rfl (by decide) (by decide) (k_X12_laysLight hS0.1 ta0 ⟨_, d2⟩) ?_
  rintro cn' K' N' I5 R6 L7 ⟨rfl, rfl, rfl, rfl, rfl, g8, -⟩
  have hS10 := hS0.tr g8 (by decide +kernel) (by decide +kernel)
  refine tr_aload_n dX12_tonight_5 rfl ?_
  refine tr_aload_n dX12_tonight_6 rfl ?_
  refine q_callVi hE (M' := mX12_everybody) (as := []) dX12_tonight_7 lk12_437 inX12_everybody seX12_everybody myX12_everybody (by decide) ⟨by decide, by decide⟩ rfl (kR15 hS10.1 ta0) (Nat.le_of_ble_eq_true rfl) rfl rfl (by decide) (by decide) (k_X12_everybody hS10.1 ta0 ⟨_, d2⟩) ?_
  rintro v15 cn' K' N' I11 R12 L13 ⟨rfl, rfl, rfl, rfl, rfl, rfl, h16, -⟩
  refine tr_aload_n dX12_tonight_10 rfl ?_
  obtain ⟨a17, d18, ta17⟩ := rf15_16 hW0 ta0
  refine tr_getR dX12_tonight_11 fl12_17 (kR15 hS10.1 ta0) d18 ?_
  refine q_iconst dX12_tonight_14 (by decide) ?_
  intro v19 h20
  obtain ⟨v21, c22⟩ : ∃ v, I0 a17 0 = v := ⟨_, rfl⟩
  refine q_iald dX12_tonight_15 (kR77 hS10.1 ta17) (ti_in (nR77 hS10.1 ta17) (by exact om_d99fa9e4 h20) (by exact om_152819bd h20)) ?_
  intro v23 c24
  rw [show v19.toNatClampNeg = 0 from ti_cl (by exact om_71345643 h20)] at c24
  obtain rfl : v21 = v23 := (((hS10.cell ta17 (by decide +kernel)).trans c22)).symm.trans c24
  refine q_callVi hE (M' := mX12_goes) (as := [_, _]) dX12_tonight_16 lk12_440 inX12_goes seX12_goes myX12_goes (by decide) ⟨by decide, by decide⟩ rfl (kR15 hS10.1 ta0) (Nat.le_of_ble_eq_true rfl) rfl rfl (by decide) (by decide) (k_X12_goes hS10.1 ta0 ⟨_, d2⟩) ?_
  rintro v29 cn' K' N' I25 R26 L27 ⟨rfl, rfl, rfl, rfl, rfl, g28, -⟩
  have hS30 := hS10.tr g28 (by decide +kernel) (by decide +kernel)
  exact tr_iret hZ dX12_tonight_19 rfl (by decide) (by decide) ⟨v29, rfl, rfl, rfl, rfl, rfl, rfl, hS30, trivial⟩
def wi_X12_work : List Nat := [960, 961, 962, 5247, 5311, 5375, 5439, 5503, 5567, 5631, 5695, 5759, 5823, 5887, 5951, 6015]
def wr_X12_work : List Nat := []
set_option maxHeartbeats 4000000 in
theorem k_X12_work {l : Launch} {T : Nat → Nat} {cn : Nat} {K N : Nat → Nat} {I0 : cz_I} {R0 : cz_R} {L0 : cz_L} {d : Int} (hW0 : Wf T cn K N I0 R0 d) {a0 : Nat} (ta0 : T a0 = 15) {x1 : Int32} {x2 : Int32} : ConE l mX12_work [.ref a0, .int x1, .int x2] cn K N I0 R0 L0 (ca_i (fun v cn' K' N' I' R' L' => cn = cn' ∧ K = K' ∧ N = N' ∧ R0 = R' ∧ L0 = L' ∧ St T cn K N d wi_X12_work wr_X12_work I0 R0 I' R0 ∧ True)) := by
  refine ConE.of (by decide +kernel) rfl (Nat.le_of_ble_eq_true rfl) rfl (fun X hX hZ hE => ?_)
  subst hX
  have hS0 : St T cn K N d wi_X12_work wr_X12_work I0 R0 I0 R0 := St.rf0 hW0
  rcases rf15_3 hW0 ta0 with d2 | ⟨a1, d2, ta1⟩
  · skip
    refine tr_aload_n dX12_work_0 rfl ?_
    refine q_iconst dX12_work_1 (by decide) ?_
    intro v3 h4
    refine q_putI dX12_work_2 fl12_70 (kR15 hS0.1 ta0) (Or.inl rfl) hS0 ta0 (iokF rfl) rfl (by decide +kernel) ?_
    intro I5 hS6 e7 f8
    refine tr_aload_n dX12_work_5 rfl ?_
    refine tr_iload_n dX12_work_6 rfl ?_
    refine q_callVi hE (M' := mX12_isTurner) (as := [_]) dX12_work_7 lk12_452 inX12_isTurner seX12_isTurner myX12_isTurner (by decide) ⟨by decide, by decide⟩ rfl (kR15 hS6.1 ta0) (Nat.le_of_ble_eq_true rfl) rfl rfl (by decide) (by decide) (k_X12_isTurner hS6.1 ta0) ?_
    rintro v13 cn' K' N' I9 R10 L11 ⟨rfl, rfl, rfl, rfl, rfl, rfl, h14, p15, p16, -⟩
    have p17 := (p16 d2)
    refine q_if_eq 22 dX12_work_10 (by decide) (fun h18 => ?_) (fun h18 => ?_)
    · skip
      refine tr_aload_n dX12_work_22 rfl ?_
      refine q_iconst dX12_work_23 (by decide) ?_
      intro v19 h20
      refine q_callVi hE (M' := mX12_refused) (as := [_]) dX12_work_24 lk12_76 inX12_refused seX12_refused myX12_refused (by decide) ⟨by decide, by decide⟩ rfl (kR15 hS6.1 ta0) (Nat.le_of_ble_eq_true rfl) rfl rfl (by decide) (by decide) (k_X12_refused hS6.1 ta0) ?_
      rintro v25 cn' K' N' I21 R22 L23 ⟨rfl, rfl, rfl, rfl, rfl, g24, -⟩
      have hS26 := hS6.tr g24 (by decide +kernel) (by decide +kernel)
      have c27 : I21 a0 0 = v3 := (g24.cell ta0 (by decide +kernel)).trans e7
      exact tr_iret hZ dX12_work_27 rfl (by decide) (by decide) ⟨v25, rfl, rfl, rfl, rfl, rfl, rfl, hS26, trivial⟩
    · skip
      exfalso; exact om_3a97d4a5 p17 h18
  · skip
    refine tr_aload_n dX12_work_0 rfl ?_
    refine q_iconst dX12_work_1 (by decide) ?_
    intro v28 h29
    refine q_putI dX12_work_2 fl12_70 (kR15 hS0.1 ta0) (Or.inl rfl) hS0 ta0 (iokF rfl) rfl (by decide +kernel) ?_
    intro I30 hS31 e32 f33
    refine tr_aload_n dX12_work_5 rfl ?_
    refine tr_iload_n dX12_work_6 rfl ?_
    refine q_callVi hE (M' := mX12_isTurner) (as := [_]) dX12_work_7 lk12_452 inX12_isTurner seX12_isTurner myX12_isTurner (by decide) ⟨by decide, by decide⟩ rfl (kR15 hS31.1 ta0) (Nat.le_of_ble_eq_true rfl) rfl rfl (by decide) (by decide) (k_X12_isTurner hS31.1 ta0) ?_
    rintro v38 cn' K' N' I34 R35 L36 ⟨rfl, rfl, rfl, rfl, rfl, rfl, h39, p40, p41, -⟩
    refine q_if_eq 22 dX12_work_10 (by decide) (fun h42 => ?_) (fun h42 => ?_)
    · skip
      refine tr_aload_n dX12_work_22 rfl ?_
      refine q_iconst dX12_work_23 (by decide) ?_
      intro v43 h44
      refine q_callVi hE (M' := mX12_refused) (as := [_]) dX12_work_24 lk12_76 inX12_refused seX12_refused myX12_refused (by decide) ⟨by decide, by decide⟩ rfl (kR15 hS31.1 ta0) (Nat.le_of_ble_eq_true rfl) rfl rfl (by decide) (by decide) (k_X12_refused hS31.1 ta0) ?_
      rintro v49 cn' K' N' I45 R46 L47 ⟨rfl, rfl, rfl, rfl, rfl, g48, -⟩
      have hS50 := hS31.tr g48 (by decide +kernel) (by decide +kernel)
      have c51 : I45 a0 0 = v28 := (g48.cell ta0 (by decide +kernel)).trans e32
      exact tr_iret hZ dX12_work_27 rfl (by decide) (by decide) ⟨v49, rfl, rfl, rfl, rfl, rfl, rfl, hS50, trivial⟩
    · skip
      refine tr_iload_n dX12_work_13 rfl ?_
      refine q_iconst dX12_work_14 (by decide) ?_
      intro v52 h53
      refine q_iconst dX12_work_15 (by decide) ?_
      intro v54 h55
      refine q_callSi hE (M' := mX12_in) (as := [_, _, _]) dX12_work_16 lk12_149 inX12_in myX12_in ⟨by decide, by decide⟩ rfl (Nat.le_of_ble_eq_true rfl) rfl rfl (by decide) (by decide) (k_X12_in hS31.1 ) ?_
      rintro v60 cn' K' N' I56 R57 L58 ⟨rfl, rfl, rfl, rfl, rfl, rfl, h61, p62, p63, -⟩
      refine q_if_ne 28 dX12_work_19 (by decide) (fun h64 => ?_) (fun h64 => ?_)
      · skip
        refine tr_aload_n dX12_work_28 rfl ?_
        refine q_callVi hE (M' := mX12_tonight) (as := []) dX12_work_29 lk12_455 inX12_tonight seX12_tonight myX12_tonight (by decide) ⟨by decide, by decide⟩ rfl (kR15 hS31.1 ta0) (Nat.le_of_ble_eq_true rfl) rfl rfl (by decide) (by decide) (k_X12_tonight hS31.1 ta0 ⟨_, d2⟩) ?_
        rintro v69 cn' K' N' I65 R66 L67 ⟨rfl, rfl, rfl, rfl, rfl, g68, -⟩
        have hS70 := hS31.tr g68 (by decide +kernel) (by decide +kernel)
        have c71 : I65 a0 0 = v28 := (g68.cell ta0 (by decide +kernel)).trans e32
        refine tr_pop dX12_work_32 rfl ?_
        refine q_iconst dX12_work_33 (by decide) ?_
        intro v72 h73
        refine tr_istore_n dX12_work_34 (by decide) (by decide) ?_
        refine q_iconst dX12_work_35 (by decide) ?_
        intro v74 h75
        refine tr_istore dX12_work_36 (by decide) (by decide) ?_
        have lp86 : ∀ (fu : Nat) (ls : Nat → Option Value) (v76 : Int32) (v77 : Int32) (I83 : cz_I), ls 0 = some (.ref a0) → ls 1 = some (.int x1) → ls 2 = some (.int x2) → ls 3 = some (.int v76) → ls 4 = some (.int v77) → St T cn K N d wi_X12_work wr_X12_work I0 R0 I83 R0 → 0 ≤ v77.toInt → (-v77.toInt + 2147483647).toNat < fu → Tr X mX12_work 38 ls [] cn K N I83 R0 L0 0 0 := by
          intro fu
          induction fu with
          | zero => intros; rename_i hz; exact absurd hz (Nat.not_lt_zero _)
          | succ fu ih86 =>
            intro ls v76 v77 I83 hl78 hl79 hl80 hl81 hl82 hS84 g85 hm86
            refine tr_iload dX12_work_38 hl82 ?_
            refine tr_aload_n dX12_work_40 hl78 ?_
            refine tr_getR dX12_work_41 fl12_385 (kR15 hS84.1 ta0) d2 ?_
            obtain ⟨v88, c89⟩ : ∃ v, I0 a1 0 = v := ⟨_, rfl⟩
            have b90 := hW0.2.2.2.2.2.1 a0 ta0 _ d2
            rw [c89] at b90
            have b91 := iv14_0 hW0 ta1 c89
            refine q_getI dX12_work_44 fl12_192 (kR14 hS84.1 ta1) ((hS84.cell ta1 (by decide +kernel)).trans c89) ?_
            refine q_icmp_ge 197 dX12_work_47 (by decide) (fun h92 => ?_) (fun h92 => ?_)
            · skip
              refine tr_aload_n dX12_work_197 hl78 ?_
              refine tr_iload_n dX12_work_198 hl81 ?_
              refine q_callVi hE (M' := mX12_good) (as := [_]) dX12_work_199 lk12_81 inX12_good seX12_good myX12_good (by decide) ⟨by decide, by decide⟩ rfl (kR15 hS84.1 ta0) (Nat.le_of_ble_eq_true rfl) rfl rfl (by decide) (by decide) (k_X12_good hS84.1 ta0) ?_
              rintro v97 cn' K' N' I93 R94 L95 ⟨rfl, rfl, rfl, rfl, rfl, g96, -⟩
              have hS98 := hS84.tr g96 (by decide +kernel) (by decide +kernel)
              exact tr_iret hZ dX12_work_202 rfl (by decide) (by decide) ⟨v97, rfl, rfl, rfl, rfl, rfl, rfl, hS98, trivial⟩
            · skip
              refine q_iconst dX12_work_50 (by decide) ?_
              intro v99 h100
              refine tr_istore dX12_work_51 (by decide) (by decide) ?_
              refine q_iconst dX12_work_53 (by decide) ?_
              intro v101 h102
              refine tr_istore dX12_work_54 (by decide) (by decide) ?_
              refine q_iconst dX12_work_56 (by decide) ?_
              intro v103 h104
              refine tr_istore dX12_work_57 (by decide) (by decide) ?_
              have lp119 : ∀ (fu : Nat) (ls : Nat → Option Value) (v105 : Int32) (v106 : Int32) (v107 : Int32) (I116 : cz_I), ls 0 = some (.ref a0) → ls 1 = some (.int x1) → ls 2 = some (.int x2) → ls 3 = some (.int v76) → ls 4 = some (.int v77) → ls 5 = some (.int v105) → ls 6 = some (.int v106) → ls 7 = some (.int v107) → St T cn K N d wi_X12_work wr_X12_work I0 R0 I116 R0 → 0 ≤ v107.toInt → (-v107.toInt + 2147483647).toNat < fu → Tr X mX12_work 59 ls [] cn K N I116 R0 L0 0 0 := by
                intro fu
                induction fu with
                | zero => intros; rename_i hz; exact absurd hz (Nat.not_lt_zero _)
                | succ fu ih119 =>
                  intro ls v105 v106 v107 I116 hl108 hl109 hl110 hl111 hl112 hl113 hl114 hl115 hS117 g118 hm119
                  refine tr_iload dX12_work_59 hl115 ?_
                  refine tr_aload_n dX12_work_61 hl108 ?_
                  refine tr_getR dX12_work_62 fl12_385 (kR15 hS117.1 ta0) d2 ?_
                  obtain ⟨v121, c122⟩ : ∃ v, I0 a1 3 = v := ⟨_, rfl⟩
                  have b123 := iv14_3 hW0 ta1 c122
                  refine q_getI dX12_work_65 fl12_224 (kR14 hS117.1 ta1) ((hS117.cell ta1 (by decide +kernel)).trans c122) ?_
                  refine q_icmp_ge 130 dX12_work_68 (by decide) (fun h124 => ?_) (fun h124 => ?_)
                  · skip
                    refine tr_iload_n dX12_work_130 hl111 ?_
                    refine tr_iload_n dX12_work_131 hl110 ?_
                    refine q_if_ne 140 dX12_work_132 (by decide) (fun h125 => ?_) (fun h125 => ?_)
                    · skip
                      refine tr_iload_n dX12_work_140 hl110 ?_
                      refine q_iconst dX12_work_141 (by decide) ?_
                      intro v126 h127
                      refine q_icmp_ne 150 dX12_work_142 (by decide) (fun h128 => ?_) (fun h128 => ?_)
                      · skip
                        refine tr_iload_n dX12_work_150 hl110 ?_
                        refine q_iconst dX12_work_151 (by decide) ?_
                        intro v129 h130
                        refine q_icmp_ne 168 dX12_work_152 (by decide) (fun h131 => ?_) (fun h131 => ?_)
                        · skip
                          refine tr_aload_n dX12_work_168 hl108 ?_
                          refine tr_iload_n dX12_work_169 hl109 ?_
                          refine tr_iload dX12_work_170 hl112 ?_
                          refine tr_aload_n dX12_work_172 hl108 ?_
                          obtain ⟨a132, d133, ta132⟩ := rf15_16 hW0 ta0
                          refine tr_getR dX12_work_173 fl12_17 (kR15 hS117.1 ta0) d133 ?_
                          refine q_iconst dX12_work_176 (by decide) ?_
                          intro v134 h135
                          obtain ⟨v136, c137⟩ : ∃ v, I0 a132 0 = v := ⟨_, rfl⟩
                          refine q_iald dX12_work_177 (kR77 hS117.1 ta132) (ti_in (nR77 hS117.1 ta132) (by exact om_d99fa9e4 h135) (by exact om_152819bd h135)) ?_
                          intro v138 c139
                          rw [show v134.toNatClampNeg = 0 from ti_cl (by exact om_71345643 h135)] at c139
                          obtain rfl : v136 = v138 := (((hS117.cell ta132 (by decide +kernel)).trans c137)).symm.trans c139
                          refine q_callVi hE (M' := mX12_isAwake) (as := [_, _, _]) dX12_work_178 lk12_419 inX12_isAwake seX12_isAwake myX12_isAwake (by decide) ⟨by decide, by decide⟩ rfl (kR15 hS117.1 ta0) (Nat.le_of_ble_eq_true rfl) rfl rfl (by decide) (by decide) (k_X12_isAwake hS117.1 ta0 (by exact om_8b05ba24 h39.2 h39.1 p40 h42 h53 h55 h61.2 h61.1 p62 p63 h64 b90 b91.2 h92 h125 h127 h128 h130 h131) (by exact om_7b69baed g85 b90 b91.2 h92) ⟨_, d2⟩) ?_
                          rintro v144 cn' K' N' I140 R141 L142 ⟨rfl, rfl, rfl, rfl, rfl, rfl, h145, -⟩
                          refine q_if_eq 188 dX12_work_181 (by decide) (fun h146 => ?_) (fun h146 => ?_)
                          · skip
                            refine q_iconst dX12_work_188 (by decide) ?_
                            intro v147 h148
                            refine q_iaddE dX12_work_189 (by intro j1 j2 j3 j4; exact om_1c96de31 h148 j1 j2) ?_
                            intro v149 h150
                            refine tr_istore_n dX12_work_190 (by decide) (by decide) ?_
                            refine q_iincE dX12_work_191 hl112 (by decide) (by decide) (by intro j1 j2; exact om_851a16a6 g85 b90 b91.2 h92 j2) ?_
                            intro v151 h152
                            refine tr_goto 38 dX12_work_194 (by decide) ?_
                            exact ih86 _ v149 v151 I116 hl108 hl109 hl110 rfl rfl hS117 (by exact om_68881c41 g85 h152) (by exact om_5dd11af3 g85 hm86 b90 b91.2 h92 h125 h127 h128 h130 h131 h152)
                          · skip
                            refine q_iconst dX12_work_184 (by decide) ?_
                            intro v153 h154
                            refine tr_goto 189 dX12_work_185 (by decide) ?_
                            refine q_iadd dX12_work_189 ?_
                            intro v155
                            refine tr_istore_n dX12_work_190 (by decide) (by decide) ?_
                            refine q_iincE dX12_work_191 hl112 (by decide) (by decide) (by intro j1 j2; exact om_851a16a6 g85 b90 b91.2 h92 j2) ?_
                            intro v156 h157
                            refine tr_goto 38 dX12_work_194 (by decide) ?_
                            exact ih86 _ v155 v156 I116 hl108 hl109 hl110 rfl rfl hS117 (by exact om_68881c41 g85 h157) (by exact om_ff0b6d94 g85 hm86 b90 b91.2 h92 h125 h127 h128 h130 h131 h145.2 h145.1 h146 h157)
                        · skip
                          refine tr_iload dX12_work_155 hl113 ?_
                          refine q_if_le 164 dX12_work_157 (by decide) (fun h158 => ?_) (fun h158 => ?_)
                          · skip
                            refine q_iconst dX12_work_164 (by decide) ?_
                            intro v159 h160
                            refine tr_goto 189 dX12_work_165 (by decide) ?_
                            refine q_iaddE dX12_work_189 (by intro j1 j2 j3 j4; exact om_1c96de31 h160 j1 j2) ?_
                            intro v161 h162
                            refine tr_istore_n dX12_work_190 (by decide) (by decide) ?_
                            refine q_iincE dX12_work_191 hl112 (by decide) (by decide) (by intro j1 j2; exact om_851a16a6 g85 b90 b91.2 h92 j2) ?_
                            intro v163 h164
                            refine tr_goto 38 dX12_work_194 (by decide) ?_
                            exact ih86 _ v161 v163 I116 hl108 hl109 hl110 rfl rfl hS117 (by exact om_68881c41 g85 h164) (by exact om_e02c797b g85 hm86 b90 b91.2 h92 h125 h127 h128 h130 h131 h164)
                          · skip
                            refine q_iconst dX12_work_160 (by decide) ?_
                            intro v165 h166
                            refine tr_goto 189 dX12_work_161 (by decide) ?_
                            refine q_iadd dX12_work_189 ?_
                            intro v167
                            refine tr_istore_n dX12_work_190 (by decide) (by decide) ?_
                            refine q_iincE dX12_work_191 hl112 (by decide) (by decide) (by intro j1 j2; exact om_851a16a6 g85 b90 b91.2 h92 j2) ?_
                            intro v168 h169
                            refine tr_goto 38 dX12_work_194 (by decide) ?_
                            exact ih86 _ v167 v168 I116 hl108 hl109 hl110 rfl rfl hS117 (by exact om_68881c41 g85 h169) (by exact om_e02c797b g85 hm86 b90 b91.2 h92 h125 h127 h128 h130 h131 h169)
                      · skip
                        refine tr_iload dX12_work_145 hl114 ?_
                        refine tr_goto 189 dX12_work_147 (by decide) ?_
                        refine q_iadd dX12_work_189 ?_
                        intro v170
                        refine tr_istore_n dX12_work_190 (by decide) (by decide) ?_
                        refine q_iincE dX12_work_191 hl112 (by decide) (by decide) (by intro j1 j2; exact om_851a16a6 g85 b90 b91.2 h92 j2) ?_
                        intro v171 h172
                        refine tr_goto 38 dX12_work_194 (by decide) ?_
                        exact ih86 _ v170 v171 I116 hl108 hl109 hl110 rfl rfl hS117 (by exact om_68881c41 g85 h172) (by exact om_f7858c9b g85 hm86 b90 b91.2 h92 h125 h127 h128 h172)
                    · skip
                      refine tr_iload dX12_work_135 hl113 ?_
                      refine tr_goto 189 dX12_work_137 (by decide) ?_
                      refine q_iadd dX12_work_189 ?_
                      intro v173
                      refine tr_istore_n dX12_work_190 (by decide) (by decide) ?_
                      refine q_iincE dX12_work_191 hl112 (by decide) (by decide) (by intro j1 j2; exact om_851a16a6 g85 b90 b91.2 h92 j2) ?_
                      intro v174 h175
                      refine tr_goto 38 dX12_work_194 (by decide) ?_
                      exact ih86 _ v173 v174 I116 hl108 hl109 hl110 rfl rfl hS117 (by exact om_68881c41 g85 h175) (by exact om_bdc53839 g85 hm86 b90 b91.2 h92 h175)
                  · skip
                    refine tr_aload_n dX12_work_71 hl108 ?_
                    obtain ⟨a176, d177, ta176⟩ := rf15_27 hW0 ta0
                    refine tr_getR dX12_work_72 fl12_46 (kR15 hS117.1 ta0) d177 ?_
                    refine q_sipush dX12_work_75 (by decide +kernel) ?_
                    intro v178 h179
                    refine tr_iload dX12_work_78 hl115 ?_
                    refine q_imulE (c := 240) dX12_work_80 (by exact om_0c59d38e h179) (by exact om_4999391c g118 b123.2 b123.1 h124) ?_
                    intro v180 h181
                    refine tr_iload dX12_work_81 hl112 ?_
                    refine q_iaddE dX12_work_83 (by intro j1 j2 j3 j4; exact om_6387f854 g85 b90 b91.2 h92 b123.2 b123.1 h124 h181 j1 j2 j4) ?_
                    intro v182 h183
                    refine q_iald dX12_work_84 (kR87 hS117.1 ta176) (ti_in (nR87 hS117.1 ta176) (by exact om_43db6c4f g85 b90 b91.2 h92 g118 h181 h183) (by exact om_16622af2 g85 b90 b91.2 h92 b123.2 b123.1 h124 h181 h183)) ?_
                    intro v184 c185
                    refine tr_iload_n dX12_work_85 hl109 ?_
                    refine q_icmp_eq 92 dX12_work_86 (by decide) (fun h186 => ?_) (fun h186 => ?_)
                    · skip
                      refine q_iinc dX12_work_92 hl113 (by decide) ?_
                      intro v187
                      refine tr_iload dX12_work_95 hl114 ?_
                      refine tr_aload_n dX12_work_97 hl108 ?_
                      refine tr_aload_n dX12_work_98 hl108 ?_
                      refine tr_getR dX12_work_99 fl12_385 (kR15 hS117.1 ta0) d2 ?_
                      obtain ⟨a188, d189, ta188⟩ := rf14_15 hW0 ta1
                      refine tr_getR dX12_work_102 fl12_296 (kR14 hS117.1 ta1) d189 ?_
                      refine tr_iload dX12_work_105 hl115 ?_
                      refine q_iald dX12_work_107 (kR58 hS117.1 ta188) (ti_in (nR58 hS117.1 ta188) (by exact om_2cfcd5a5 g118) (by exact om_5f13cc30 b123.2 b123.1 h124)) ?_
                      intro v190 c191
                      have b192 := iv58 hS117.1 ta188 c191
                      refine tr_iload dX12_work_108 hl112 ?_
                      refine q_callVi hE (M' := mX12_changesIn) (as := [_, _]) dX12_work_110 lk12_413 inX12_changesIn seX12_changesIn myX12_changesIn (by decide) ⟨by decide, by decide⟩ rfl (kR15 hS117.1 ta0) (Nat.le_of_ble_eq_true rfl) rfl rfl (by decide) (by decide) (k_X12_changesIn hS117.1 ta0 (by exact om_6c59cd6a b192) (by exact om_30fc74ad g85 b90 b91.2 h92 h181 h183)) ?_
                      rintro v197 cn' K' N' I193 R194 L195 ⟨rfl, rfl, rfl, rfl, rfl, rfl, h198, -⟩
                      refine q_if_eq 120 dX12_work_113 (by decide) (fun h199 => ?_) (fun h199 => ?_)
                      · skip
                        refine q_iconst dX12_work_120 (by decide) ?_
                        intro v200 h201
                        refine q_iaddE dX12_work_121 (by intro j1 j2 j3 j4; exact om_1c96de31 h201 j1 j2) ?_
                        intro v202 h203
                        refine tr_istore dX12_work_122 (by decide) (by decide) ?_
                        refine q_iincE dX12_work_124 hl115 (by decide) (by decide) (by intro j1 j2; exact om_4034714d g118 b123.2 b123.1 h124 j2) ?_
                        intro v204 h205
                        refine tr_goto 59 dX12_work_127 (by decide) ?_
                        exact ih119 _ v187 v202 v204 I116 hl108 hl109 hl110 hl111 hl112 rfl rfl rfl hS117 (by exact om_68881c41 g118 h205) (by exact om_fc025699 g118 hm119 b123.2 b123.1 h124 h205)
                      · skip
                        refine q_iconst dX12_work_116 (by decide) ?_
                        intro v206 h207
                        refine tr_goto 121 dX12_work_117 (by decide) ?_
                        refine q_iadd dX12_work_121 ?_
                        intro v208
                        refine tr_istore dX12_work_122 (by decide) (by decide) ?_
                        refine q_iincE dX12_work_124 hl115 (by decide) (by decide) (by intro j1 j2; exact om_4034714d g118 b123.2 b123.1 h124 j2) ?_
                        intro v209 h210
                        refine tr_goto 59 dX12_work_127 (by decide) ?_
                        exact ih119 _ v187 v208 v209 I116 hl108 hl109 hl110 hl111 hl112 rfl rfl rfl hS117 (by exact om_68881c41 g118 h210) (by exact om_ed32802d g118 hm119 b123.2 b123.1 h124 h198.2 h198.1 h199 h210)
                    · skip
                      refine tr_goto 124 dX12_work_89 (by decide) ?_
                      refine q_iincE dX12_work_124 hl115 (by decide) (by decide) (by intro j1 j2; exact om_4034714d g118 b123.2 b123.1 h124 j2) ?_
                      intro v211 h212
                      refine tr_goto 59 dX12_work_127 (by decide) ?_
                      exact ih119 _ v105 v106 v211 I116 hl108 hl109 hl110 hl111 hl112 hl113 hl114 rfl hS117 (by exact om_68881c41 g118 h212) (by exact om_8ec43a4b g118 hm119 b123.2 b123.1 h124 h186 h212)
              exact lp119 _ _ v99 v101 v103 I83 hl78 hl79 hl80 hl81 hl82 rfl rfl rfl hS84 (by exact om_d99fa9e4 h104) (Nat.lt_succ_self _)
        exact lp86 _ _ v72 v74 I65 rfl rfl rfl rfl rfl hS70 (by exact om_d99fa9e4 h75) (Nat.lt_succ_self _)
      · skip
        refine tr_aload_n dX12_work_22 rfl ?_
        refine q_iconst dX12_work_23 (by decide) ?_
        intro v213 h214
        refine q_callVi hE (M' := mX12_refused) (as := [_]) dX12_work_24 lk12_76 inX12_refused seX12_refused myX12_refused (by decide) ⟨by decide, by decide⟩ rfl (kR15 hS31.1 ta0) (Nat.le_of_ble_eq_true rfl) rfl rfl (by decide) (by decide) (k_X12_refused hS31.1 ta0) ?_
        rintro v219 cn' K' N' I215 R216 L217 ⟨rfl, rfl, rfl, rfl, rfl, g218, -⟩
        have hS220 := hS31.tr g218 (by decide +kernel) (by decide +kernel)
        have c221 : I215 a0 0 = v28 := (g218.cell ta0 (by decide +kernel)).trans e32
        exact tr_iret hZ dX12_work_27 rfl (by decide) (by decide) ⟨v219, rfl, rfl, rfl, rfl, rfl, rfl, hS220, trivial⟩
def wi_X12_lost : List Nat := [961, 962]
def wr_X12_lost : List Nat := []
set_option maxHeartbeats 4000000 in
theorem k_X12_lost {l : Launch} {T : Nat → Nat} {cn : Nat} {K N : Nat → Nat} {I0 : cz_I} {R0 : cz_R} {L0 : cz_L} {d : Int} (hW0 : Wf T cn K N I0 R0 d) {a0 : Nat} (ta0 : T a0 = 15) {x1 : Int32} : ConE l mX12_lost [.ref a0, .int x1] cn K N I0 R0 L0 (ca_i (fun v cn' K' N' I' R' L' => cn = cn' ∧ K = K' ∧ N = N' ∧ R0 = R' ∧ L0 = L' ∧ St T cn K N d wi_X12_lost wr_X12_lost I0 R0 I' R0 ∧ True)) := by
  refine ConE.of (by decide +kernel) rfl (Nat.le_of_ble_eq_true rfl) rfl (fun X hX hZ hE => ?_)
  subst hX
  have hS0 : St T cn K N d wi_X12_lost wr_X12_lost I0 R0 I0 R0 := St.rf0 hW0
  refine tr_aload_n dX12_lost_0 rfl ?_
  refine tr_iload_n dX12_lost_1 rfl ?_
  refine q_callVi hE (M' := mX12_refused) (as := [_]) dX12_lost_2 lk12_76 inX12_refused seX12_refused myX12_refused (by decide) ⟨by decide, by decide⟩ rfl (kR15 hS0.1 ta0) (Nat.le_of_ble_eq_true rfl) rfl rfl (by decide) (by decide) (k_X12_refused hS0.1 ta0) ?_
  rintro v5 cn' K' N' I1 R2 L3 ⟨rfl, rfl, rfl, rfl, rfl, g4, -⟩
  have hS6 := hS0.tr g4 (by decide +kernel) (by decide +kernel)
  refine tr_pop dX12_lost_5 rfl ?_
  refine q_ldc (-100000) dX12_lost_6 ld12_80 (by decide +kernel) ?_
  intro v7 h8
  exact tr_iret hZ dX12_lost_8 rfl (by decide) (by decide) ⟨v7, rfl, rfl, rfl, rfl, rfl, rfl, hS6, trivial⟩
def wi_X12_worth : List Nat := [960, 961, 962, 5247, 5311, 5375, 5439, 5503, 5567, 5631, 5695, 5759, 5823, 5887, 5951, 6015]
def wr_X12_worth : List Nat := []
set_option maxHeartbeats 4000000 in
theorem k_X12_worth {l : Launch} {T : Nat → Nat} {cn : Nat} {K N : Nat → Nat} {I0 : cz_I} {R0 : cz_R} {L0 : cz_L} {d : Int} (hW0 : Wf T cn K N I0 R0 d) {a0 : Nat} (ta0 : T a0 = 15) {x1 : Int32} : ConE l mX12_worth [.ref a0, .int x1] cn K N I0 R0 L0 (ca_i (fun v cn' K' N' I' R' L' => cn = cn' ∧ K = K' ∧ N = N' ∧ R0 = R' ∧ L0 = L' ∧ St T cn K N d wi_X12_worth wr_X12_worth I0 R0 I' R0 ∧ True)) := by
  refine ConE.of (by decide +kernel) rfl (Nat.le_of_ble_eq_true rfl) rfl (fun X hX hZ hE => ?_)
  subst hX
  have hS0 : St T cn K N d wi_X12_worth wr_X12_worth I0 R0 I0 R0 := St.rf0 hW0
  rcases rf15_3 hW0 ta0 with d2 | ⟨a1, d2, ta1⟩
  · skip
    refine tr_aload_n dX12_worth_0 rfl ?_
    refine q_iconst dX12_worth_1 (by decide) ?_
    intro v3 h4
    refine q_putI dX12_worth_2 fl12_70 (kR15 hS0.1 ta0) (Or.inl rfl) hS0 ta0 (iokF rfl) rfl (by decide +kernel) ?_
    intro I5 hS6 e7 f8
    refine tr_aload_n dX12_worth_5 rfl ?_
    refine tr_iload_n dX12_worth_6 rfl ?_
    refine q_callVi hE (M' := mX12_isTurner) (as := [_]) dX12_worth_7 lk12_452 inX12_isTurner seX12_isTurner myX12_isTurner (by decide) ⟨by decide, by decide⟩ rfl (kR15 hS6.1 ta0) (Nat.le_of_ble_eq_true rfl) rfl rfl (by decide) (by decide) (k_X12_isTurner hS6.1 ta0) ?_
    rintro v13 cn' K' N' I9 R10 L11 ⟨rfl, rfl, rfl, rfl, rfl, rfl, h14, p15, p16, -⟩
    have p17 := (p16 d2)
    refine q_if_ne 19 dX12_worth_10 (by decide) (fun h18 => ?_) (fun h18 => ?_)
    · skip
      exfalso; exact om_3a97d4a5 p17 h18
    · skip
      refine tr_aload_n dX12_worth_13 rfl ?_
      refine q_iconst dX12_worth_14 (by decide) ?_
      intro v19 h20
      refine q_callVi hE (M' := mX12_lost) (as := [_]) dX12_worth_15 lk12_458 inX12_lost seX12_lost myX12_lost (by decide) ⟨by decide, by decide⟩ rfl (kR15 hS6.1 ta0) (Nat.le_of_ble_eq_true rfl) rfl rfl (by decide) (by decide) (k_X12_lost hS6.1 ta0) ?_
      rintro v25 cn' K' N' I21 R22 L23 ⟨rfl, rfl, rfl, rfl, rfl, g24, -⟩
      have hS26 := hS6.tr g24 (by decide +kernel) (by decide +kernel)
      have c27 : I21 a0 0 = v3 := (g24.cell ta0 (by decide +kernel)).trans e7
      exact tr_iret hZ dX12_worth_18 rfl (by decide) (by decide) ⟨v25, rfl, rfl, rfl, rfl, rfl, rfl, hS26, trivial⟩
  · skip
    refine tr_aload_n dX12_worth_0 rfl ?_
    refine q_iconst dX12_worth_1 (by decide) ?_
    intro v28 h29
    refine q_putI dX12_worth_2 fl12_70 (kR15 hS0.1 ta0) (Or.inl rfl) hS0 ta0 (iokF rfl) rfl (by decide +kernel) ?_
    intro I30 hS31 e32 f33
    refine tr_aload_n dX12_worth_5 rfl ?_
    refine tr_iload_n dX12_worth_6 rfl ?_
    refine q_callVi hE (M' := mX12_isTurner) (as := [_]) dX12_worth_7 lk12_452 inX12_isTurner seX12_isTurner myX12_isTurner (by decide) ⟨by decide, by decide⟩ rfl (kR15 hS31.1 ta0) (Nat.le_of_ble_eq_true rfl) rfl rfl (by decide) (by decide) (k_X12_isTurner hS31.1 ta0) ?_
    rintro v38 cn' K' N' I34 R35 L36 ⟨rfl, rfl, rfl, rfl, rfl, rfl, h39, p40, p41, -⟩
    refine q_if_ne 19 dX12_worth_10 (by decide) (fun h42 => ?_) (fun h42 => ?_)
    · skip
      refine tr_aload_n dX12_worth_19 rfl ?_
      refine q_callVi hE (M' := mX12_tonight) (as := []) dX12_worth_20 lk12_455 inX12_tonight seX12_tonight myX12_tonight (by decide) ⟨by decide, by decide⟩ rfl (kR15 hS31.1 ta0) (Nat.le_of_ble_eq_true rfl) rfl rfl (by decide) (by decide) (k_X12_tonight hS31.1 ta0 ⟨_, d2⟩) ?_
      rintro v47 cn' K' N' I43 R44 L45 ⟨rfl, rfl, rfl, rfl, rfl, g46, -⟩
      have hS48 := hS31.tr g46 (by decide +kernel) (by decide +kernel)
      have c49 : I43 a0 0 = v28 := (g46.cell ta0 (by decide +kernel)).trans e32
      refine tr_istore_n dX12_worth_23 (by decide) (by decide) ?_
      refine tr_aload_n dX12_worth_24 rfl ?_
      refine tr_iload_n dX12_worth_25 rfl ?_
      refine tr_aload_n dX12_worth_26 rfl ?_
      refine tr_aload_n dX12_worth_27 rfl ?_
      refine q_callVi hE (M' := mX12_everybody) (as := []) dX12_worth_28 lk12_437 inX12_everybody seX12_everybody myX12_everybody (by decide) ⟨by decide, by decide⟩ rfl (kR15 hS48.1 ta0) (Nat.le_of_ble_eq_true rfl) rfl rfl (by decide) (by decide) (k_X12_everybody hS48.1 ta0 ⟨_, d2⟩) ?_
      rintro v54 cn' K' N' I50 R51 L52 ⟨rfl, rfl, rfl, rfl, rfl, rfl, h55, -⟩
      refine q_iconst dX12_worth_31 (by decide) ?_
      intro v56 h57
      refine tr_iload_n dX12_worth_32 rfl ?_
      refine q_ishlE dX12_worth_33 (by exact om_ee8a1e2d h57) (by exact om_c89a2d80 h39.2 h39.1 p40 h42) ?_
      intro v58 h59
      refine q_iconst dX12_worth_34 (by decide) ?_
      intro v60 h61
      refine q_ixor dX12_worth_35 ?_
      intro v62
      refine q_iand dX12_worth_36 ?_
      intro v63
      refine tr_aload_n dX12_worth_37 rfl ?_
      obtain ⟨a64, d65, ta64⟩ := rf15_16 hW0 ta0
      refine tr_getR dX12_worth_38 fl12_17 (kR15 hS48.1 ta0) d65 ?_
      refine q_iconst dX12_worth_41 (by decide) ?_
      intro v66 h67
      obtain ⟨v68, c69⟩ : ∃ v, I0 a64 0 = v := ⟨_, rfl⟩
      refine q_iald dX12_worth_42 (kR77 hS48.1 ta64) (ti_in (nR77 hS48.1 ta64) (by exact om_d99fa9e4 h67) (by exact om_152819bd h67)) ?_
      intro v70 c71
      rw [show v66.toNatClampNeg = 0 from ti_cl (by exact om_71345643 h67)] at c71
      obtain rfl : v68 = v70 := (((hS48.cell ta64 (by decide +kernel)).trans c69)).symm.trans c71
      refine q_callVi hE (M' := mX12_goes) (as := [_, _]) dX12_worth_43 lk12_440 inX12_goes seX12_goes myX12_goes (by decide) ⟨by decide, by decide⟩ rfl (kR15 hS48.1 ta0) (Nat.le_of_ble_eq_true rfl) rfl rfl (by decide) (by decide) (k_X12_goes hS48.1 ta0 ⟨_, d2⟩) ?_
      rintro v76 cn' K' N' I72 R73 L74 ⟨rfl, rfl, rfl, rfl, rfl, g75, -⟩
      have hS77 := hS48.tr g75 (by decide +kernel) (by decide +kernel)
      have c78 : I72 a0 0 = v28 := (g75.cell ta0 (by decide +kernel)).trans c49
      refine q_isub dX12_worth_46 ?_
      intro v79
      refine q_callVi hE (M' := mX12_good) (as := [_]) dX12_worth_47 lk12_81 inX12_good seX12_good myX12_good (by decide) ⟨by decide, by decide⟩ rfl (kR15 hS77.1 ta0) (Nat.le_of_ble_eq_true rfl) rfl rfl (by decide) (by decide) (k_X12_good hS77.1 ta0) ?_
      rintro v84 cn' K' N' I80 R81 L82 ⟨rfl, rfl, rfl, rfl, rfl, g83, -⟩
      have hS85 := hS77.tr g83 (by decide +kernel) (by decide +kernel)
      have c86 : I80 a0 0 = v28 := (g83.cell ta0 (by decide +kernel)).trans c78
      exact tr_iret hZ dX12_worth_50 rfl (by decide) (by decide) ⟨v84, rfl, rfl, rfl, rfl, rfl, rfl, hS85, trivial⟩
    · skip
      refine tr_aload_n dX12_worth_13 rfl ?_
      refine q_iconst dX12_worth_14 (by decide) ?_
      intro v87 h88
      refine q_callVi hE (M' := mX12_lost) (as := [_]) dX12_worth_15 lk12_458 inX12_lost seX12_lost myX12_lost (by decide) ⟨by decide, by decide⟩ rfl (kR15 hS31.1 ta0) (Nat.le_of_ble_eq_true rfl) rfl rfl (by decide) (by decide) (k_X12_lost hS31.1 ta0) ?_
      rintro v93 cn' K' N' I89 R90 L91 ⟨rfl, rfl, rfl, rfl, rfl, g92, -⟩
      have hS94 := hS31.tr g92 (by decide +kernel) (by decide +kernel)
      have c95 : I89 a0 0 = v28 := (g92.cell ta0 (by decide +kernel)).trans e32
      exact tr_iret hZ dX12_worth_18 rfl (by decide) (by decide) ⟨v93, rfl, rfl, rfl, rfl, rfl, rfl, hS94, trivial⟩
set_option maxHeartbeats 4000000 in
theorem k_X12_isCheese {l : Launch} {T : Nat → Nat} {cn : Nat} {K N : Nat → Nat} {I0 : cz_I} {R0 : cz_R} {L0 : cz_L} {d : Int} (hW0 : Wf T cn K N I0 R0 d) {a0 : Nat} (ta0 : T a0 = 15) {x1 : Int32} : ConE l mX12_isCheese [.ref a0, .int x1] cn K N I0 R0 L0 (ca_i (fun v cn' K' N' I' R' L' => cn = cn' ∧ K = K' ∧ N = N' ∧ I0 = I' ∧ R0 = R' ∧ L0 = L' ∧ (0 ≤ v.toInt ∧ v.toInt ≤ 1) ∧ ((v.toInt = 1 → (0 ≤ x1.toInt ∧ x1.toInt ≤ 7))) ∧ (R0 a0 3 = none → v.toInt = 0) ∧ True)) := by
  refine ConE.of (by decide +kernel) rfl (Nat.le_of_ble_eq_true rfl) rfl (fun X hX hZ hE => ?_)
  subst hX
  rcases rf15_3 hW0 ta0 with d2 | ⟨a1, d2, ta1⟩
  · skip
    refine tr_aload_n dX12_isCheese_0 rfl ?_
    refine tr_getN dX12_isCheese_1 fl12_385 (kR15 hW0 ta0) d2 ?_
    refine tr_ifnullN 26 dX12_isCheese_4 (by decide) ?_
    refine q_iconst dX12_isCheese_26 (by decide) ?_
    intro v3 h4
    exact tr_zret hZ dX12_isCheese_27 rfl (ti_b01 (by exact om_d99fa9e4 h4) (by exact om_d3de7ec9 h4)) (by decide) (by decide) ⟨v3, rfl, rfl, rfl, rfl, rfl, rfl, rfl, (by exact om_3b50ecb9 h4), (by exact om_680f9b44 h4), (fun _ => by exact om_29f55913 h4), trivial⟩
  · skip
    refine tr_aload_n dX12_isCheese_0 rfl ?_
    refine tr_getR dX12_isCheese_1 fl12_385 (kR15 hW0 ta0) d2 ?_
    refine tr_ifnull dX12_isCheese_4 ?_
    refine tr_iload_n dX12_isCheese_7 rfl ?_
    refine q_if_lt 26 dX12_isCheese_8 (by decide) (fun h5 => ?_) (fun h5 => ?_)
    · skip
      refine q_iconst dX12_isCheese_26 (by decide) ?_
      intro v6 h7
      exact tr_zret hZ dX12_isCheese_27 rfl (ti_b01 (by exact om_d99fa9e4 h7) (by exact om_d3de7ec9 h7)) (by decide) (by decide) ⟨v6, rfl, rfl, rfl, rfl, rfl, rfl, rfl, (by exact om_3b50ecb9 h7), (by exact om_680f9b44 h7), (fun z => by rw [d2] at z; cases z), trivial⟩
    · skip
      refine tr_iload_n dX12_isCheese_11 rfl ?_
      refine tr_aload_n dX12_isCheese_12 rfl ?_
      refine tr_getR dX12_isCheese_13 fl12_385 (kR15 hW0 ta0) d2 ?_
      obtain ⟨v8, c9⟩ : ∃ v, I0 a1 3 = v := ⟨_, rfl⟩
      have b10 := iv14_3 hW0 ta1 c9
      refine q_getI dX12_isCheese_16 fl12_224 (kR14 hW0 ta1) c9 ?_
      refine q_icmp_ge 26 dX12_isCheese_19 (by decide) (fun h11 => ?_) (fun h11 => ?_)
      · skip
        refine q_iconst dX12_isCheese_26 (by decide) ?_
        intro v12 h13
        exact tr_zret hZ dX12_isCheese_27 rfl (ti_b01 (by exact om_d99fa9e4 h13) (by exact om_d3de7ec9 h13)) (by decide) (by decide) ⟨v12, rfl, rfl, rfl, rfl, rfl, rfl, rfl, (by exact om_3b50ecb9 h13), (by exact om_680f9b44 h13), (fun z => by rw [d2] at z; cases z), trivial⟩
      · skip
        refine q_iconst dX12_isCheese_22 (by decide) ?_
        intro v14 h15
        refine tr_goto 27 dX12_isCheese_23 (by decide) ?_
        exact tr_zret hZ dX12_isCheese_27 rfl (ti_b01 (by exact om_f9079521 h15) (by exact om_e6632817 h15)) (by decide) (by decide) ⟨v14, rfl, rfl, rfl, rfl, rfl, rfl, rfl, (by exact om_d753bc65 h15), (by exact om_1a00df8d h5 b10.2 b10.1 h11), (fun z => by rw [d2] at z; cases z), trivial⟩
def wi_X12_turned : List Nat := [960, 961, 962, 5247, 5311, 5375, 5439, 5503, 5567, 5631, 5695, 5759, 5823, 5887, 5951, 6015]
def wr_X12_turned : List Nat := []
set_option maxHeartbeats 4000000 in
theorem k_X12_turned {l : Launch} {T : Nat → Nat} {cn : Nat} {K N : Nat → Nat} {I0 : cz_I} {R0 : cz_R} {L0 : cz_L} {d : Int} (hW0 : Wf T cn K N I0 R0 d) {a0 : Nat} (ta0 : T a0 = 15) {x1 : Int32} {x2 : Int32} : ConE l mX12_turned [.ref a0, .int x1, .int x2] cn K N I0 R0 L0 (ca_i (fun v cn' K' N' I' R' L' => cn = cn' ∧ K = K' ∧ N = N' ∧ R0 = R' ∧ L0 = L' ∧ St T cn K N d wi_X12_turned wr_X12_turned I0 R0 I' R0 ∧ True)) := by
  refine ConE.of (by decide +kernel) rfl (Nat.le_of_ble_eq_true rfl) rfl (fun X hX hZ hE => ?_)
  subst hX
  have hS0 : St T cn K N d wi_X12_turned wr_X12_turned I0 R0 I0 R0 := St.rf0 hW0
  rcases rf15_3 hW0 ta0 with d2 | ⟨a1, d2, ta1⟩
  · skip
    refine tr_aload_n dX12_turned_0 rfl ?_
    refine q_iconst dX12_turned_1 (by decide) ?_
    intro v3 h4
    refine q_putI dX12_turned_2 fl12_70 (kR15 hS0.1 ta0) (Or.inl rfl) hS0 ta0 (iokF rfl) rfl (by decide +kernel) ?_
    intro I5 hS6 e7 f8
    refine tr_aload_n dX12_turned_5 rfl ?_
    refine tr_iload_n dX12_turned_6 rfl ?_
    refine q_callVi hE (M' := mX12_isCheese) (as := [_]) dX12_turned_7 lk12_461 inX12_isCheese seX12_isCheese myX12_isCheese (by decide) ⟨by decide, by decide⟩ rfl (kR15 hS6.1 ta0) (Nat.le_of_ble_eq_true rfl) rfl rfl (by decide) (by decide) (k_X12_isCheese hS6.1 ta0) ?_
    rintro v13 cn' K' N' I9 R10 L11 ⟨rfl, rfl, rfl, rfl, rfl, rfl, h14, p15, p16, -⟩
    have p17 := (p16 d2)
    refine q_if_ne 19 dX12_turned_10 (by decide) (fun h18 => ?_) (fun h18 => ?_)
    · skip
      exfalso; exact om_3a97d4a5 p17 h18
    · skip
      refine tr_aload_n dX12_turned_13 rfl ?_
      refine q_iconst dX12_turned_14 (by decide) ?_
      intro v19 h20
      refine q_callVi hE (M' := mX12_refused) (as := [_]) dX12_turned_15 lk12_76 inX12_refused seX12_refused myX12_refused (by decide) ⟨by decide, by decide⟩ rfl (kR15 hS6.1 ta0) (Nat.le_of_ble_eq_true rfl) rfl rfl (by decide) (by decide) (k_X12_refused hS6.1 ta0) ?_
      rintro v25 cn' K' N' I21 R22 L23 ⟨rfl, rfl, rfl, rfl, rfl, g24, -⟩
      have hS26 := hS6.tr g24 (by decide +kernel) (by decide +kernel)
      have c27 : I21 a0 0 = v3 := (g24.cell ta0 (by decide +kernel)).trans e7
      exact tr_iret hZ dX12_turned_18 rfl (by decide) (by decide) ⟨v25, rfl, rfl, rfl, rfl, rfl, rfl, hS26, trivial⟩
  · skip
    refine tr_aload_n dX12_turned_0 rfl ?_
    refine q_iconst dX12_turned_1 (by decide) ?_
    intro v28 h29
    refine q_putI dX12_turned_2 fl12_70 (kR15 hS0.1 ta0) (Or.inl rfl) hS0 ta0 (iokF rfl) rfl (by decide +kernel) ?_
    intro I30 hS31 e32 f33
    refine tr_aload_n dX12_turned_5 rfl ?_
    refine tr_iload_n dX12_turned_6 rfl ?_
    refine q_callVi hE (M' := mX12_isCheese) (as := [_]) dX12_turned_7 lk12_461 inX12_isCheese seX12_isCheese myX12_isCheese (by decide) ⟨by decide, by decide⟩ rfl (kR15 hS31.1 ta0) (Nat.le_of_ble_eq_true rfl) rfl rfl (by decide) (by decide) (k_X12_isCheese hS31.1 ta0) ?_
    rintro v38 cn' K' N' I34 R35 L36 ⟨rfl, rfl, rfl, rfl, rfl, rfl, h39, p40, p41, -⟩
    refine q_if_ne 19 dX12_turned_10 (by decide) (fun h42 => ?_) (fun h42 => ?_)
    · skip
      refine tr_aload_n dX12_turned_19 rfl ?_
      refine tr_iload_n dX12_turned_20 rfl ?_
      refine q_callVi hE (M' := mX12_isMinute) (as := [_]) dX12_turned_21 lk12_443 inX12_isMinute seX12_isMinute myX12_isMinute (by decide) ⟨by decide, by decide⟩ rfl (kR15 hS31.1 ta0) (Nat.le_of_ble_eq_true rfl) rfl rfl (by decide) (by decide) (k_X12_isMinute hS31.1 ta0 ⟨_, d2⟩) ?_
      rintro v47 cn' K' N' I43 R44 L45 ⟨rfl, rfl, rfl, rfl, rfl, rfl, h48, p49, -⟩
      refine q_if_ne 33 dX12_turned_24 (by decide) (fun h50 => ?_) (fun h50 => ?_)
      · skip
        refine tr_aload_n dX12_turned_33 rfl ?_
        refine q_callVi hE (M' := mX12_tonight) (as := []) dX12_turned_34 lk12_455 inX12_tonight seX12_tonight myX12_tonight (by decide) ⟨by decide, by decide⟩ rfl (kR15 hS31.1 ta0) (Nat.le_of_ble_eq_true rfl) rfl rfl (by decide) (by decide) (k_X12_tonight hS31.1 ta0 ⟨_, d2⟩) ?_
        rintro v55 cn' K' N' I51 R52 L53 ⟨rfl, rfl, rfl, rfl, rfl, g54, -⟩
        have hS56 := hS31.tr g54 (by decide +kernel) (by decide +kernel)
        have c57 : I51 a0 0 = v28 := (g54.cell ta0 (by decide +kernel)).trans e32
        refine tr_pop dX12_turned_37 rfl ?_
        refine tr_aload_n dX12_turned_38 rfl ?_
        refine tr_aload_n dX12_turned_39 rfl ?_
        obtain ⟨a58, d59, ta58⟩ := rf15_27 hW0 ta0
        refine tr_getR dX12_turned_40 fl12_46 (kR15 hS56.1 ta0) d59 ?_
        refine q_sipush dX12_turned_43 (by decide +kernel) ?_
        intro v60 h61
        refine tr_iload_n dX12_turned_46 rfl ?_
        refine q_imulE (c := 240) dX12_turned_47 (by exact om_0c59d38e h61) (by exact om_f372160b h39.2 h39.1 p40 h42 h48.2 h48.1 p49 h50) ?_
        intro v62 h63
        refine tr_iload_n dX12_turned_48 rfl ?_
        refine q_iaddE dX12_turned_49 (by intro j1 j2 j3 j4; exact om_2e4100ed h39.2 h39.1 p40 h42 h48.2 h48.1 p49 h50 h63 j1 j2 j3 j4) ?_
        intro v64 h65
        refine q_iald dX12_turned_50 (kR87 hS56.1 ta58) (ti_in (nR87 hS56.1 ta58) (by exact om_ce00d9c5 h39.2 h39.1 p40 h42 h48.2 h48.1 p49 h50 h63 h65) (by exact om_77818ae8 h39.2 h39.1 p40 h42 h48.2 h48.1 p49 h50 h63 h65)) ?_
        intro v66 c67
        refine q_callVi hE (M' := mX12_good) (as := [_]) dX12_turned_51 lk12_81 inX12_good seX12_good myX12_good (by decide) ⟨by decide, by decide⟩ rfl (kR15 hS56.1 ta0) (Nat.le_of_ble_eq_true rfl) rfl rfl (by decide) (by decide) (k_X12_good hS56.1 ta0) ?_
        rintro v72 cn' K' N' I68 R69 L70 ⟨rfl, rfl, rfl, rfl, rfl, g71, -⟩
        have hS73 := hS56.tr g71 (by decide +kernel) (by decide +kernel)
        have c74 : I68 a0 0 = v28 := (g71.cell ta0 (by decide +kernel)).trans c57
        exact tr_iret hZ dX12_turned_54 rfl (by decide) (by decide) ⟨v72, rfl, rfl, rfl, rfl, rfl, rfl, hS73, trivial⟩
      · skip
        refine tr_aload_n dX12_turned_27 rfl ?_
        refine q_iconst dX12_turned_28 (by decide) ?_
        intro v75 h76
        refine q_callVi hE (M' := mX12_refused) (as := [_]) dX12_turned_29 lk12_76 inX12_refused seX12_refused myX12_refused (by decide) ⟨by decide, by decide⟩ rfl (kR15 hS31.1 ta0) (Nat.le_of_ble_eq_true rfl) rfl rfl (by decide) (by decide) (k_X12_refused hS31.1 ta0) ?_
        rintro v81 cn' K' N' I77 R78 L79 ⟨rfl, rfl, rfl, rfl, rfl, g80, -⟩
        have hS82 := hS31.tr g80 (by decide +kernel) (by decide +kernel)
        have c83 : I77 a0 0 = v28 := (g80.cell ta0 (by decide +kernel)).trans e32
        exact tr_iret hZ dX12_turned_32 rfl (by decide) (by decide) ⟨v81, rfl, rfl, rfl, rfl, rfl, rfl, hS82, trivial⟩
    · skip
      refine tr_aload_n dX12_turned_13 rfl ?_
      refine q_iconst dX12_turned_14 (by decide) ?_
      intro v84 h85
      refine q_callVi hE (M' := mX12_refused) (as := [_]) dX12_turned_15 lk12_76 inX12_refused seX12_refused myX12_refused (by decide) ⟨by decide, by decide⟩ rfl (kR15 hS31.1 ta0) (Nat.le_of_ble_eq_true rfl) rfl rfl (by decide) (by decide) (k_X12_refused hS31.1 ta0) ?_
      rintro v90 cn' K' N' I86 R87 L88 ⟨rfl, rfl, rfl, rfl, rfl, g89, -⟩
      have hS91 := hS31.tr g89 (by decide +kernel) (by decide +kernel)
      have c92 : I86 a0 0 = v28 := (g89.cell ta0 (by decide +kernel)).trans e32
      exact tr_iret hZ dX12_turned_18 rfl (by decide) (by decide) ⟨v90, rfl, rfl, rfl, rfl, rfl, rfl, hS91, trivial⟩
def wi_X12_up : List Nat := [960, 961, 962, 5247, 5311, 5375, 5439, 5503, 5567, 5631, 5695, 5759, 5823, 5887, 5951, 6015]
def wr_X12_up : List Nat := []
set_option maxHeartbeats 4000000 in
theorem k_X12_up {l : Launch} {T : Nat → Nat} {cn : Nat} {K N : Nat → Nat} {I0 : cz_I} {R0 : cz_R} {L0 : cz_L} {d : Int} (hW0 : Wf T cn K N I0 R0 d) {a0 : Nat} (ta0 : T a0 = 15) {x1 : Int32} {x2 : Int32} : ConE l mX12_up [.ref a0, .int x1, .int x2] cn K N I0 R0 L0 (ca_i (fun v cn' K' N' I' R' L' => cn = cn' ∧ K = K' ∧ N = N' ∧ R0 = R' ∧ L0 = L' ∧ St T cn K N d wi_X12_up wr_X12_up I0 R0 I' R0 ∧ True)) := by
  refine ConE.of (by decide +kernel) rfl (Nat.le_of_ble_eq_true rfl) rfl (fun X hX hZ hE => ?_)
  subst hX
  have hS0 : St T cn K N d wi_X12_up wr_X12_up I0 R0 I0 R0 := St.rf0 hW0
  rcases rf15_3 hW0 ta0 with d2 | ⟨a1, d2, ta1⟩
  · skip
    refine tr_aload_n dX12_up_0 rfl ?_
    refine q_iconst dX12_up_1 (by decide) ?_
    intro v3 h4
    refine q_putI dX12_up_2 fl12_70 (kR15 hS0.1 ta0) (Or.inl rfl) hS0 ta0 (iokF rfl) rfl (by decide +kernel) ?_
    intro I5 hS6 e7 f8
    refine tr_aload_n dX12_up_5 rfl ?_
    refine tr_iload_n dX12_up_6 rfl ?_
    refine q_callVi hE (M' := mX12_isCheese) (as := [_]) dX12_up_7 lk12_461 inX12_isCheese seX12_isCheese myX12_isCheese (by decide) ⟨by decide, by decide⟩ rfl (kR15 hS6.1 ta0) (Nat.le_of_ble_eq_true rfl) rfl rfl (by decide) (by decide) (k_X12_isCheese hS6.1 ta0) ?_
    rintro v13 cn' K' N' I9 R10 L11 ⟨rfl, rfl, rfl, rfl, rfl, rfl, h14, p15, p16, -⟩
    have p17 := (p16 d2)
    refine q_if_ne 19 dX12_up_10 (by decide) (fun h18 => ?_) (fun h18 => ?_)
    · skip
      exfalso; exact om_3a97d4a5 p17 h18
    · skip
      refine tr_aload_n dX12_up_13 rfl ?_
      refine q_iconst dX12_up_14 (by decide) ?_
      intro v19 h20
      refine q_callVi hE (M' := mX12_refused) (as := [_]) dX12_up_15 lk12_76 inX12_refused seX12_refused myX12_refused (by decide) ⟨by decide, by decide⟩ rfl (kR15 hS6.1 ta0) (Nat.le_of_ble_eq_true rfl) rfl rfl (by decide) (by decide) (k_X12_refused hS6.1 ta0) ?_
      rintro v25 cn' K' N' I21 R22 L23 ⟨rfl, rfl, rfl, rfl, rfl, g24, -⟩
      have hS26 := hS6.tr g24 (by decide +kernel) (by decide +kernel)
      have c27 : I21 a0 0 = v3 := (g24.cell ta0 (by decide +kernel)).trans e7
      exact tr_iret hZ dX12_up_18 rfl (by decide) (by decide) ⟨v25, rfl, rfl, rfl, rfl, rfl, rfl, hS26, trivial⟩
  · skip
    refine tr_aload_n dX12_up_0 rfl ?_
    refine q_iconst dX12_up_1 (by decide) ?_
    intro v28 h29
    refine q_putI dX12_up_2 fl12_70 (kR15 hS0.1 ta0) (Or.inl rfl) hS0 ta0 (iokF rfl) rfl (by decide +kernel) ?_
    intro I30 hS31 e32 f33
    refine tr_aload_n dX12_up_5 rfl ?_
    refine tr_iload_n dX12_up_6 rfl ?_
    refine q_callVi hE (M' := mX12_isCheese) (as := [_]) dX12_up_7 lk12_461 inX12_isCheese seX12_isCheese myX12_isCheese (by decide) ⟨by decide, by decide⟩ rfl (kR15 hS31.1 ta0) (Nat.le_of_ble_eq_true rfl) rfl rfl (by decide) (by decide) (k_X12_isCheese hS31.1 ta0) ?_
    rintro v38 cn' K' N' I34 R35 L36 ⟨rfl, rfl, rfl, rfl, rfl, rfl, h39, p40, p41, -⟩
    refine q_if_ne 19 dX12_up_10 (by decide) (fun h42 => ?_) (fun h42 => ?_)
    · skip
      refine tr_aload_n dX12_up_19 rfl ?_
      refine tr_iload_n dX12_up_20 rfl ?_
      refine q_callVi hE (M' := mX12_isMinute) (as := [_]) dX12_up_21 lk12_443 inX12_isMinute seX12_isMinute myX12_isMinute (by decide) ⟨by decide, by decide⟩ rfl (kR15 hS31.1 ta0) (Nat.le_of_ble_eq_true rfl) rfl rfl (by decide) (by decide) (k_X12_isMinute hS31.1 ta0 ⟨_, d2⟩) ?_
      rintro v47 cn' K' N' I43 R44 L45 ⟨rfl, rfl, rfl, rfl, rfl, rfl, h48, p49, -⟩
      refine q_if_ne 33 dX12_up_24 (by decide) (fun h50 => ?_) (fun h50 => ?_)
      · skip
        refine tr_aload_n dX12_up_33 rfl ?_
        refine q_callVi hE (M' := mX12_tonight) (as := []) dX12_up_34 lk12_455 inX12_tonight seX12_tonight myX12_tonight (by decide) ⟨by decide, by decide⟩ rfl (kR15 hS31.1 ta0) (Nat.le_of_ble_eq_true rfl) rfl rfl (by decide) (by decide) (k_X12_tonight hS31.1 ta0 ⟨_, d2⟩) ?_
        rintro v55 cn' K' N' I51 R52 L53 ⟨rfl, rfl, rfl, rfl, rfl, g54, -⟩
        have hS56 := hS31.tr g54 (by decide +kernel) (by decide +kernel)
        have c57 : I51 a0 0 = v28 := (g54.cell ta0 (by decide +kernel)).trans e32
        refine tr_pop dX12_up_37 rfl ?_
        refine tr_aload_n dX12_up_38 rfl ?_
        refine tr_aload_n dX12_up_39 rfl ?_
        obtain ⟨a58, d59, ta58⟩ := rf15_33 hW0 ta0
        refine tr_getR dX12_up_40 fl12_64 (kR15 hS56.1 ta0) d59 ?_
        refine q_sipush dX12_up_43 (by decide +kernel) ?_
        intro v60 h61
        refine tr_iload_n dX12_up_46 rfl ?_
        refine q_imulE (c := 240) dX12_up_47 (by exact om_0c59d38e h61) (by exact om_f372160b h39.2 h39.1 p40 h42 h48.2 h48.1 p49 h50) ?_
        intro v62 h63
        refine tr_iload_n dX12_up_48 rfl ?_
        refine q_iaddE dX12_up_49 (by intro j1 j2 j3 j4; exact om_2e4100ed h39.2 h39.1 p40 h42 h48.2 h48.1 p49 h50 h63 j1 j2 j3 j4) ?_
        intro v64 h65
        refine q_zald dX12_up_50 (kR93 hS56.1 ta58) (ti_in (nR93 hS56.1 ta58) (by exact om_ce00d9c5 h39.2 h39.1 p40 h42 h48.2 h48.1 p49 h50 h63 h65) (by exact om_77818ae8 h39.2 h39.1 p40 h42 h48.2 h48.1 p49 h50 h63 h65)) ?_
        intro v66 c67
        have b68 := iv93 hS56.1 ta58 c67
        refine q_if_eq 58 dX12_up_51 (by decide) (fun h69 => ?_) (fun h69 => ?_)
        · skip
          refine q_iconst dX12_up_58 (by decide) ?_
          intro v70 h71
          refine q_callVi hE (M' := mX12_good) (as := [_]) dX12_up_59 lk12_81 inX12_good seX12_good myX12_good (by decide) ⟨by decide, by decide⟩ rfl (kR15 hS56.1 ta0) (Nat.le_of_ble_eq_true rfl) rfl rfl (by decide) (by decide) (k_X12_good hS56.1 ta0) ?_
          rintro v76 cn' K' N' I72 R73 L74 ⟨rfl, rfl, rfl, rfl, rfl, g75, -⟩
          have hS77 := hS56.tr g75 (by decide +kernel) (by decide +kernel)
          have c78 : I72 a0 0 = v28 := (g75.cell ta0 (by decide +kernel)).trans c57
          exact tr_iret hZ dX12_up_62 rfl (by decide) (by decide) ⟨v76, rfl, rfl, rfl, rfl, rfl, rfl, hS77, trivial⟩
        · skip
          refine q_iconst dX12_up_54 (by decide) ?_
          intro v79 h80
          refine tr_goto 59 dX12_up_55 (by decide) ?_
          refine q_callVi hE (M' := mX12_good) (as := [_]) dX12_up_59 lk12_81 inX12_good seX12_good myX12_good (by decide) ⟨by decide, by decide⟩ rfl (kR15 hS56.1 ta0) (Nat.le_of_ble_eq_true rfl) rfl rfl (by decide) (by decide) (k_X12_good hS56.1 ta0) ?_
          rintro v85 cn' K' N' I81 R82 L83 ⟨rfl, rfl, rfl, rfl, rfl, g84, -⟩
          have hS86 := hS56.tr g84 (by decide +kernel) (by decide +kernel)
          have c87 : I81 a0 0 = v28 := (g84.cell ta0 (by decide +kernel)).trans c57
          exact tr_iret hZ dX12_up_62 rfl (by decide) (by decide) ⟨v85, rfl, rfl, rfl, rfl, rfl, rfl, hS86, trivial⟩
      · skip
        refine tr_aload_n dX12_up_27 rfl ?_
        refine q_iconst dX12_up_28 (by decide) ?_
        intro v88 h89
        refine q_callVi hE (M' := mX12_refused) (as := [_]) dX12_up_29 lk12_76 inX12_refused seX12_refused myX12_refused (by decide) ⟨by decide, by decide⟩ rfl (kR15 hS31.1 ta0) (Nat.le_of_ble_eq_true rfl) rfl rfl (by decide) (by decide) (k_X12_refused hS31.1 ta0) ?_
        rintro v94 cn' K' N' I90 R91 L92 ⟨rfl, rfl, rfl, rfl, rfl, g93, -⟩
        have hS95 := hS31.tr g93 (by decide +kernel) (by decide +kernel)
        have c96 : I90 a0 0 = v28 := (g93.cell ta0 (by decide +kernel)).trans e32
        exact tr_iret hZ dX12_up_32 rfl (by decide) (by decide) ⟨v94, rfl, rfl, rfl, rfl, rfl, rfl, hS95, trivial⟩
    · skip
      refine tr_aload_n dX12_up_13 rfl ?_
      refine q_iconst dX12_up_14 (by decide) ?_
      intro v97 h98
      refine q_callVi hE (M' := mX12_refused) (as := [_]) dX12_up_15 lk12_76 inX12_refused seX12_refused myX12_refused (by decide) ⟨by decide, by decide⟩ rfl (kR15 hS31.1 ta0) (Nat.le_of_ble_eq_true rfl) rfl rfl (by decide) (by decide) (k_X12_refused hS31.1 ta0) ?_
      rintro v103 cn' K' N' I99 R100 L101 ⟨rfl, rfl, rfl, rfl, rfl, g102, -⟩
      have hS104 := hS31.tr g102 (by decide +kernel) (by decide +kernel)
      have c105 : I99 a0 0 = v28 := (g102.cell ta0 (by decide +kernel)).trans e32
      exact tr_iret hZ dX12_up_18 rfl (by decide) (by decide) ⟨v103, rfl, rfl, rfl, rfl, rfl, rfl, hS104, trivial⟩
def wi_X12_cheese : List Nat := [960, 961, 962, 5247, 5311, 5375, 5439, 5503, 5567, 5631, 5695, 5759, 5823, 5887, 5951, 6015]
def wr_X12_cheese : List Nat := []
set_option maxHeartbeats 4000000 in
theorem k_X12_cheese {l : Launch} {T : Nat → Nat} {cn : Nat} {K N : Nat → Nat} {I0 : cz_I} {R0 : cz_R} {L0 : cz_L} {d : Int} (hW0 : Wf T cn K N I0 R0 d) {a0 : Nat} (ta0 : T a0 = 15) {x1 : Int32} {x2 : Int32} : ConE l mX12_cheese [.ref a0, .int x1, .int x2] cn K N I0 R0 L0 (ca_i (fun v cn' K' N' I' R' L' => cn = cn' ∧ K = K' ∧ N = N' ∧ R0 = R' ∧ L0 = L' ∧ St T cn K N d wi_X12_cheese wr_X12_cheese I0 R0 I' R0 ∧ True)) := by
  refine ConE.of (by decide +kernel) rfl (Nat.le_of_ble_eq_true rfl) rfl (fun X hX hZ hE => ?_)
  subst hX
  have hS0 : St T cn K N d wi_X12_cheese wr_X12_cheese I0 R0 I0 R0 := St.rf0 hW0
  rcases rf15_3 hW0 ta0 with d2 | ⟨a1, d2, ta1⟩
  · skip
    refine tr_aload_n dX12_cheese_0 rfl ?_
    refine q_iconst dX12_cheese_1 (by decide) ?_
    intro v3 h4
    refine q_putI dX12_cheese_2 fl12_70 (kR15 hS0.1 ta0) (Or.inl rfl) hS0 ta0 (iokF rfl) rfl (by decide +kernel) ?_
    intro I5 hS6 e7 f8
    refine tr_aload_n dX12_cheese_5 rfl ?_
    refine tr_iload_n dX12_cheese_6 rfl ?_
    refine q_callVi hE (M' := mX12_isCheese) (as := [_]) dX12_cheese_7 lk12_461 inX12_isCheese seX12_isCheese myX12_isCheese (by decide) ⟨by decide, by decide⟩ rfl (kR15 hS6.1 ta0) (Nat.le_of_ble_eq_true rfl) rfl rfl (by decide) (by decide) (k_X12_isCheese hS6.1 ta0) ?_
    rintro v13 cn' K' N' I9 R10 L11 ⟨rfl, rfl, rfl, rfl, rfl, rfl, h14, p15, p16, -⟩
    have p17 := (p16 d2)
    refine q_if_eq 23 dX12_cheese_10 (by decide) (fun h18 => ?_) (fun h18 => ?_)
    · skip
      refine tr_aload_n dX12_cheese_23 rfl ?_
      refine q_iconst dX12_cheese_24 (by decide) ?_
      intro v19 h20
      refine q_callVi hE (M' := mX12_refused) (as := [_]) dX12_cheese_25 lk12_76 inX12_refused seX12_refused myX12_refused (by decide) ⟨by decide, by decide⟩ rfl (kR15 hS6.1 ta0) (Nat.le_of_ble_eq_true rfl) rfl rfl (by decide) (by decide) (k_X12_refused hS6.1 ta0) ?_
      rintro v25 cn' K' N' I21 R22 L23 ⟨rfl, rfl, rfl, rfl, rfl, g24, -⟩
      have hS26 := hS6.tr g24 (by decide +kernel) (by decide +kernel)
      have c27 : I21 a0 0 = v3 := (g24.cell ta0 (by decide +kernel)).trans e7
      exact tr_iret hZ dX12_cheese_28 rfl (by decide) (by decide) ⟨v25, rfl, rfl, rfl, rfl, rfl, rfl, hS26, trivial⟩
    · skip
      exfalso; exact om_3a97d4a5 p17 h18
  · skip
    refine tr_aload_n dX12_cheese_0 rfl ?_
    refine q_iconst dX12_cheese_1 (by decide) ?_
    intro v28 h29
    refine q_putI dX12_cheese_2 fl12_70 (kR15 hS0.1 ta0) (Or.inl rfl) hS0 ta0 (iokF rfl) rfl (by decide +kernel) ?_
    intro I30 hS31 e32 f33
    refine tr_aload_n dX12_cheese_5 rfl ?_
    refine tr_iload_n dX12_cheese_6 rfl ?_
    refine q_callVi hE (M' := mX12_isCheese) (as := [_]) dX12_cheese_7 lk12_461 inX12_isCheese seX12_isCheese myX12_isCheese (by decide) ⟨by decide, by decide⟩ rfl (kR15 hS31.1 ta0) (Nat.le_of_ble_eq_true rfl) rfl rfl (by decide) (by decide) (k_X12_isCheese hS31.1 ta0) ?_
    rintro v38 cn' K' N' I34 R35 L36 ⟨rfl, rfl, rfl, rfl, rfl, rfl, h39, p40, p41, -⟩
    refine q_if_eq 23 dX12_cheese_10 (by decide) (fun h42 => ?_) (fun h42 => ?_)
    · skip
      refine tr_aload_n dX12_cheese_23 rfl ?_
      refine q_iconst dX12_cheese_24 (by decide) ?_
      intro v43 h44
      refine q_callVi hE (M' := mX12_refused) (as := [_]) dX12_cheese_25 lk12_76 inX12_refused seX12_refused myX12_refused (by decide) ⟨by decide, by decide⟩ rfl (kR15 hS31.1 ta0) (Nat.le_of_ble_eq_true rfl) rfl rfl (by decide) (by decide) (k_X12_refused hS31.1 ta0) ?_
      rintro v49 cn' K' N' I45 R46 L47 ⟨rfl, rfl, rfl, rfl, rfl, g48, -⟩
      have hS50 := hS31.tr g48 (by decide +kernel) (by decide +kernel)
      have c51 : I45 a0 0 = v28 := (g48.cell ta0 (by decide +kernel)).trans e32
      exact tr_iret hZ dX12_cheese_28 rfl (by decide) (by decide) ⟨v49, rfl, rfl, rfl, rfl, rfl, rfl, hS50, trivial⟩
    · skip
      refine tr_iload_n dX12_cheese_13 rfl ?_
      refine q_iconst dX12_cheese_14 (by decide) ?_
      intro v52 h53
      refine q_bipush dX12_cheese_15 (by decide +kernel) ?_
      intro v54 h55
      refine q_callSi hE (M' := mX12_in) (as := [_, _, _]) dX12_cheese_17 lk12_149 inX12_in myX12_in ⟨by decide, by decide⟩ rfl (Nat.le_of_ble_eq_true rfl) rfl rfl (by decide) (by decide) (k_X12_in hS31.1 ) ?_
      rintro v60 cn' K' N' I56 R57 L58 ⟨rfl, rfl, rfl, rfl, rfl, rfl, h61, p62, p63, -⟩
      refine q_if_ne 29 dX12_cheese_20 (by decide) (fun h64 => ?_) (fun h64 => ?_)
      · skip
        refine tr_aload_n dX12_cheese_29 rfl ?_
        refine q_callVi hE (M' := mX12_tonight) (as := []) dX12_cheese_30 lk12_455 inX12_tonight seX12_tonight myX12_tonight (by decide) ⟨by decide, by decide⟩ rfl (kR15 hS31.1 ta0) (Nat.le_of_ble_eq_true rfl) rfl rfl (by decide) (by decide) (k_X12_tonight hS31.1 ta0 ⟨_, d2⟩) ?_
        rintro v69 cn' K' N' I65 R66 L67 ⟨rfl, rfl, rfl, rfl, rfl, g68, -⟩
        have hS70 := hS31.tr g68 (by decide +kernel) (by decide +kernel)
        have c71 : I65 a0 0 = v28 := (g68.cell ta0 (by decide +kernel)).trans e32
        refine tr_pop dX12_cheese_33 rfl ?_
        refine tr_iload_n dX12_cheese_34 rfl ?_
        by_cases h72 : x2.toInt = 0
        · skip
          refine tr_tabIn (off := 37) 72 dX12_cheese_35 (by exact om_7c055b42 h72) (by exact om_af590629 h72) (by rw [h72]; decide +kernel) (by decide) ?_
          refine tr_aload_n dX12_cheese_72 rfl ?_
          refine tr_aload_n dX12_cheese_73 rfl ?_
          refine tr_getR dX12_cheese_74 fl12_385 (kR15 hS70.1 ta0) d2 ?_
          obtain ⟨a73, d74, ta73⟩ := rf14_15 hW0 ta1
          refine tr_getR dX12_cheese_77 fl12_296 (kR14 hS70.1 ta1) d74 ?_
          refine tr_iload_n dX12_cheese_80 rfl ?_
          refine q_iald dX12_cheese_81 (kR58 hS70.1 ta73) (ti_in (nR58 hS70.1 ta73) (by exact om_44a1ca6b h39.2 h39.1 p40 h42 h53 h55 h61.2 h61.1 p62 p63 h64 h72) (by exact om_d65b20dd h39.2 h39.1 p40 h42 h53 h55 h61.2 h61.1 p62 p63 h64 h72)) ?_
          intro v75 c76
          have b77 := iv58 hS70.1 ta73 c76
          refine q_callVi hE (M' := mX12_good) (as := [_]) dX12_cheese_82 lk12_81 inX12_good seX12_good myX12_good (by decide) ⟨by decide, by decide⟩ rfl (kR15 hS70.1 ta0) (Nat.le_of_ble_eq_true rfl) rfl rfl (by decide) (by decide) (k_X12_good hS70.1 ta0) ?_
          rintro v82 cn' K' N' I78 R79 L80 ⟨rfl, rfl, rfl, rfl, rfl, g81, -⟩
          have hS83 := hS70.tr g81 (by decide +kernel) (by decide +kernel)
          have c84 : I78 a0 0 = v28 := (g81.cell ta0 (by decide +kernel)).trans c71
          exact tr_iret hZ dX12_cheese_85 rfl (by decide) (by decide) ⟨v82, rfl, rfl, rfl, rfl, rfl, rfl, hS83, trivial⟩
        · skip
          by_cases h85 : x2.toInt = 1
          · skip
            refine tr_tabIn (off := 51) 86 dX12_cheese_35 (by exact om_6183b2fb h85) (by exact om_97b87f65 h85) (by rw [h85]; decide +kernel) (by decide) ?_
            refine tr_aload_n dX12_cheese_86 rfl ?_
            refine tr_aload_n dX12_cheese_87 rfl ?_
            obtain ⟨a86, d87, ta86⟩ := rf15_29 hW0 ta0
            refine tr_getR dX12_cheese_88 fl12_52 (kR15 hS70.1 ta0) d87 ?_
            refine tr_iload_n dX12_cheese_91 rfl ?_
            refine q_iald dX12_cheese_92 (kR89 hS70.1 ta86) (ti_in (nR89 hS70.1 ta86) (by exact om_88d03481 h39.2 h39.1 p40 h42 h53 h55 h61.2 h61.1 p62 p63 h64 h72 h85) (by exact om_2248e361 h39.2 h39.1 p40 h42 h53 h55 h61.2 h61.1 p62 p63 h64 h72 h85)) ?_
            intro v88 c89
            refine tr_aload_n dX12_cheese_93 rfl ?_
            obtain ⟨a90, d91, ta90⟩ := rf15_31 hW0 ta0
            refine tr_getR dX12_cheese_94 fl12_58 (kR15 hS70.1 ta0) d91 ?_
            refine tr_iload_n dX12_cheese_97 rfl ?_
            refine q_iald dX12_cheese_98 (kR91 hS70.1 ta90) (ti_in (nR91 hS70.1 ta90) (by exact om_88d03481 h39.2 h39.1 p40 h42 h53 h55 h61.2 h61.1 p62 p63 h64 h72 h85) (by exact om_2248e361 h39.2 h39.1 p40 h42 h53 h55 h61.2 h61.1 p62 p63 h64 h72 h85)) ?_
            intro v92 c93
            refine q_iadd dX12_cheese_99 ?_
            intro v94
            refine q_callVi hE (M' := mX12_good) (as := [_]) dX12_cheese_100 lk12_81 inX12_good seX12_good myX12_good (by decide) ⟨by decide, by decide⟩ rfl (kR15 hS70.1 ta0) (Nat.le_of_ble_eq_true rfl) rfl rfl (by decide) (by decide) (k_X12_good hS70.1 ta0) ?_
            rintro v99 cn' K' N' I95 R96 L97 ⟨rfl, rfl, rfl, rfl, rfl, g98, -⟩
            have hS100 := hS70.tr g98 (by decide +kernel) (by decide +kernel)
            have c101 : I95 a0 0 = v28 := (g98.cell ta0 (by decide +kernel)).trans c71
            exact tr_iret hZ dX12_cheese_103 rfl (by decide) (by decide) ⟨v99, rfl, rfl, rfl, rfl, rfl, rfl, hS100, trivial⟩
          · skip
            by_cases h102 : x2.toInt = 2
            · skip
              refine tr_tabIn (off := 69) 104 dX12_cheese_35 (by exact om_1174f472 h102) (by exact om_b4cecbf1 h102) (by rw [h102]; decide +kernel) (by decide) ?_
              refine tr_aload_n dX12_cheese_104 rfl ?_
              refine tr_aload_n dX12_cheese_105 rfl ?_
              obtain ⟨a103, d104, ta103⟩ := rf15_29 hW0 ta0
              refine tr_getR dX12_cheese_106 fl12_52 (kR15 hS70.1 ta0) d104 ?_
              refine tr_iload_n dX12_cheese_109 rfl ?_
              refine q_iald dX12_cheese_110 (kR89 hS70.1 ta103) (ti_in (nR89 hS70.1 ta103) (by exact om_49188b81 h39.2 h39.1 p40 h42 h53 h55 h61.2 h61.1 p62 p63 h64 h72 h85 h102) (by exact om_44e71b4c h39.2 h39.1 p40 h42 h53 h55 h61.2 h61.1 p62 p63 h64 h72 h85 h102)) ?_
              intro v105 c106
              refine q_callVi hE (M' := mX12_good) (as := [_]) dX12_cheese_111 lk12_81 inX12_good seX12_good myX12_good (by decide) ⟨by decide, by decide⟩ rfl (kR15 hS70.1 ta0) (Nat.le_of_ble_eq_true rfl) rfl rfl (by decide) (by decide) (k_X12_good hS70.1 ta0) ?_
              rintro v111 cn' K' N' I107 R108 L109 ⟨rfl, rfl, rfl, rfl, rfl, g110, -⟩
              have hS112 := hS70.tr g110 (by decide +kernel) (by decide +kernel)
              have c113 : I107 a0 0 = v28 := (g110.cell ta0 (by decide +kernel)).trans c71
              exact tr_iret hZ dX12_cheese_114 rfl (by decide) (by decide) ⟨v111, rfl, rfl, rfl, rfl, rfl, rfl, hS112, trivial⟩
            · skip
              by_cases h114 : x2.toInt = 3
              · skip
                refine tr_tabIn (off := 80) 115 dX12_cheese_35 (by exact om_d4b200a6 h114) (by exact om_19d4cd82 h114) (by rw [h114]; decide +kernel) (by decide) ?_
                refine tr_aload_n dX12_cheese_115 rfl ?_
                refine tr_aload_n dX12_cheese_116 rfl ?_
                obtain ⟨a115, d116, ta115⟩ := rf15_30 hW0 ta0
                refine tr_getR dX12_cheese_117 fl12_55 (kR15 hS70.1 ta0) d116 ?_
                refine tr_iload_n dX12_cheese_120 rfl ?_
                refine q_iald dX12_cheese_121 (kR90 hS70.1 ta115) (ti_in (nR90 hS70.1 ta115) (by exact om_653a1620 h39.2 h39.1 p40 h42 h53 h55 h61.2 h61.1 p62 p63 h64 h72 h85 h102 h114) (by exact om_34b89761 h39.2 h39.1 p40 h42 h53 h55 h61.2 h61.1 p62 p63 h64 h72 h85 h102 h114)) ?_
                intro v117 c118
                refine q_callVi hE (M' := mX12_good) (as := [_]) dX12_cheese_122 lk12_81 inX12_good seX12_good myX12_good (by decide) ⟨by decide, by decide⟩ rfl (kR15 hS70.1 ta0) (Nat.le_of_ble_eq_true rfl) rfl rfl (by decide) (by decide) (k_X12_good hS70.1 ta0) ?_
                rintro v123 cn' K' N' I119 R120 L121 ⟨rfl, rfl, rfl, rfl, rfl, g122, -⟩
                have hS124 := hS70.tr g122 (by decide +kernel) (by decide +kernel)
                have c125 : I119 a0 0 = v28 := (g122.cell ta0 (by decide +kernel)).trans c71
                exact tr_iret hZ dX12_cheese_125 rfl (by decide) (by decide) ⟨v123, rfl, rfl, rfl, rfl, rfl, rfl, hS124, trivial⟩
              · skip
                by_cases h126 : x2.toInt = 4
                · skip
                  refine tr_tabIn (off := 91) 126 dX12_cheese_35 (by exact om_d336d452 h126) (by exact om_8d4ba974 h126) (by rw [h126]; decide +kernel) (by decide) ?_
                  refine tr_aload_n dX12_cheese_126 rfl ?_
                  refine tr_aload_n dX12_cheese_127 rfl ?_
                  obtain ⟨a127, d128, ta127⟩ := rf15_31 hW0 ta0
                  refine tr_getR dX12_cheese_128 fl12_58 (kR15 hS70.1 ta0) d128 ?_
                  refine tr_iload_n dX12_cheese_131 rfl ?_
                  refine q_iald dX12_cheese_132 (kR91 hS70.1 ta127) (ti_in (nR91 hS70.1 ta127) (by exact om_0c7b9bee h39.2 h39.1 p40 h42 h53 h55 h61.2 h61.1 p62 p63 h64 h72 h85 h102 h114 h126) (by exact om_32b18bb0 h39.2 h39.1 p40 h42 h53 h55 h61.2 h61.1 p62 p63 h64 h72 h85 h102 h114 h126)) ?_
                  intro v129 c130
                  refine q_callVi hE (M' := mX12_good) (as := [_]) dX12_cheese_133 lk12_81 inX12_good seX12_good myX12_good (by decide) ⟨by decide, by decide⟩ rfl (kR15 hS70.1 ta0) (Nat.le_of_ble_eq_true rfl) rfl rfl (by decide) (by decide) (k_X12_good hS70.1 ta0) ?_
                  rintro v135 cn' K' N' I131 R132 L133 ⟨rfl, rfl, rfl, rfl, rfl, g134, -⟩
                  have hS136 := hS70.tr g134 (by decide +kernel) (by decide +kernel)
                  have c137 : I131 a0 0 = v28 := (g134.cell ta0 (by decide +kernel)).trans c71
                  exact tr_iret hZ dX12_cheese_136 rfl (by decide) (by decide) ⟨v135, rfl, rfl, rfl, rfl, rfl, rfl, hS136, trivial⟩
                · skip
                  by_cases h138 : x2.toInt = 5
                  · skip
                    refine tr_tabIn (off := 102) 137 dX12_cheese_35 (by exact om_d3aa380d h138) (by exact om_91eae063 h138) (by rw [h138]; decide +kernel) (by decide) ?_
                    refine tr_aload_n dX12_cheese_137 rfl ?_
                    refine tr_aload_n dX12_cheese_138 rfl ?_
                    obtain ⟨a139, d140, ta139⟩ := rf15_32 hW0 ta0
                    refine tr_getR dX12_cheese_139 fl12_61 (kR15 hS70.1 ta0) d140 ?_
                    refine tr_iload_n dX12_cheese_142 rfl ?_
                    refine q_iald dX12_cheese_143 (kR92 hS70.1 ta139) (ti_in (nR92 hS70.1 ta139) (by exact om_74a8b5ff h39.2 h39.1 p40 h42 h53 h55 h61.2 h61.1 p62 p63 h64 h72 h85 h102 h114 h126 h138) (by exact om_ea9084fe h39.2 h39.1 p40 h42 h53 h55 h61.2 h61.1 p62 p63 h64 h72 h85 h102 h114 h126 h138)) ?_
                    intro v141 c142
                    refine q_callVi hE (M' := mX12_good) (as := [_]) dX12_cheese_144 lk12_81 inX12_good seX12_good myX12_good (by decide) ⟨by decide, by decide⟩ rfl (kR15 hS70.1 ta0) (Nat.le_of_ble_eq_true rfl) rfl rfl (by decide) (by decide) (k_X12_good hS70.1 ta0) ?_
                    rintro v147 cn' K' N' I143 R144 L145 ⟨rfl, rfl, rfl, rfl, rfl, g146, -⟩
                    have hS148 := hS70.tr g146 (by decide +kernel) (by decide +kernel)
                    have c149 : I143 a0 0 = v28 := (g146.cell ta0 (by decide +kernel)).trans c71
                    exact tr_iret hZ dX12_cheese_147 rfl (by decide) (by decide) ⟨v147, rfl, rfl, rfl, rfl, rfl, rfl, hS148, trivial⟩
                  · skip
                    refine tr_tabOut 148 dX12_cheese_35 (by exact om_97f581a3 h72 h85 h102 h114 h126 h138) (by decide) ?_
                    refine tr_aload_n dX12_cheese_148 rfl ?_
                    refine tr_aload_n dX12_cheese_149 rfl ?_
                    refine tr_iload_n dX12_cheese_150 rfl ?_
                    refine q_callVi hE (M' := mX12_priceOf) (as := [_]) dX12_cheese_151 lk12_428 inX12_priceOf seX12_priceOf myX12_priceOf (by decide) ⟨by decide, by decide⟩ rfl (kR15 hS70.1 ta0) (Nat.le_of_ble_eq_true rfl) rfl rfl (by decide) (by decide) (k_X12_priceOf hS70.1 ta0 (by exact om_f7fb0d11 h39.2 h39.1 p40 h42 h53 h55 h61.2 h61.1 p62 p63 h64 h72 h85 h102 h114 h126 h138) ⟨_, d2⟩) ?_
                    rintro v154 cn' K' N' I150 R151 L152 ⟨rfl, rfl, rfl, rfl, rfl, rfl, -⟩
                    refine q_callVi hE (M' := mX12_good) (as := [_]) dX12_cheese_154 lk12_81 inX12_good seX12_good myX12_good (by decide) ⟨by decide, by decide⟩ rfl (kR15 hS70.1 ta0) (Nat.le_of_ble_eq_true rfl) rfl rfl (by decide) (by decide) (k_X12_good hS70.1 ta0) ?_
                    rintro v159 cn' K' N' I155 R156 L157 ⟨rfl, rfl, rfl, rfl, rfl, g158, -⟩
                    have hS160 := hS70.tr g158 (by decide +kernel) (by decide +kernel)
                    have c161 : I155 a0 0 = v28 := (g158.cell ta0 (by decide +kernel)).trans c71
                    exact tr_iret hZ dX12_cheese_157 rfl (by decide) (by decide) ⟨v159, rfl, rfl, rfl, rfl, rfl, rfl, hS160, trivial⟩
      · skip
        refine tr_aload_n dX12_cheese_23 rfl ?_
        refine q_iconst dX12_cheese_24 (by decide) ?_
        intro v162 h163
        refine q_callVi hE (M' := mX12_refused) (as := [_]) dX12_cheese_25 lk12_76 inX12_refused seX12_refused myX12_refused (by decide) ⟨by decide, by decide⟩ rfl (kR15 hS31.1 ta0) (Nat.le_of_ble_eq_true rfl) rfl rfl (by decide) (by decide) (k_X12_refused hS31.1 ta0) ?_
        rintro v168 cn' K' N' I164 R165 L166 ⟨rfl, rfl, rfl, rfl, rfl, g167, -⟩
        have hS169 := hS31.tr g167 (by decide +kernel) (by decide +kernel)
        have c170 : I164 a0 0 = v28 := (g167.cell ta0 (by decide +kernel)).trans e32
        exact tr_iret hZ dX12_cheese_28 rfl (by decide) (by decide) ⟨v168, rfl, rfl, rfl, rfl, rfl, rfl, hS169, trivial⟩
set_option maxHeartbeats 4000000 in
theorem k_X12_veinAt {l : Launch} {T : Nat → Nat} {cn : Nat} {K N : Nat → Nat} {I0 : cz_I} {R0 : cz_R} {L0 : cz_L} {d : Int} (hW0 : Wf T cn K N I0 R0 d) {a0 : Nat} (ta0 : T a0 = 15) {x1 : Int32} (hx1 : 0 ≤ x1.toInt ∧ x1.toInt ≤ 7) {x2 : Int32} (nn3 : ∃ b, R0 a0 3 = some b) : ConE l mX12_veinAt [.ref a0, .int x1, .int x2] cn K N I0 R0 L0 (ca_i (fun v cn' K' N' I' R' L' => cn = cn' ∧ K = K' ∧ N = N' ∧ I0 = I' ∧ R0 = R' ∧ L0 = L' ∧ True)) := by
  refine ConE.of (by decide +kernel) rfl (Nat.le_of_ble_eq_true rfl) rfl (fun X hX hZ hE => ?_)
  subst hX
  obtain ⟨a1, d2⟩ := nn3
  have ta1 : T a1 = 14 := hW0.rsN ta0 rfl d2
  refine q_iconst dX12_veinAt_0 (by decide) ?_
  intro v3 h4
  refine tr_istore_n dX12_veinAt_1 (by decide) (by decide) ?_
  refine q_iconst dX12_veinAt_2 (by decide) ?_
  intro v5 h6
  refine tr_istore dX12_veinAt_3 (by decide) (by decide) ?_
  have lp15 : ∀ (fu : Nat) (ls : Nat → Option Value) (v7 : Int32) (v8 : Int32), ls 0 = some (.ref a0) → ls 1 = some (.int x1) → ls 2 = some (.int x2) → ls 3 = some (.int v7) → ls 4 = some (.int v8) → 0 ≤ v8.toInt → (-v8.toInt + 2147483647).toNat < fu → Tr X mX12_veinAt 5 ls [] cn K N I0 R0 L0 0 0 := by
    intro fu
    induction fu with
    | zero => intros; rename_i hz; exact absurd hz (Nat.not_lt_zero _)
    | succ fu ih15 =>
      intro ls v7 v8 hl9 hl10 hl11 hl12 hl13 g14 hm15
      refine tr_iload dX12_veinAt_5 hl13 ?_
      refine tr_aload_n dX12_veinAt_7 hl9 ?_
      refine tr_getR dX12_veinAt_8 fl12_385 (kR15 hW0 ta0) d2 ?_
      obtain ⟨v17, c18⟩ : ∃ v, I0 a1 0 = v := ⟨_, rfl⟩
      have b19 := hW0.2.2.2.2.2.1 a0 ta0 _ d2
      rw [c18] at b19
      have b20 := iv14_0 hW0 ta1 c18
      refine q_getI dX12_veinAt_11 fl12_192 (kR14 hW0 ta1) c18 ?_
      refine q_icmp_ge 55 dX12_veinAt_14 (by decide) (fun h21 => ?_) (fun h21 => ?_)
      · skip
        refine q_iconst dX12_veinAt_55 (by decide) ?_
        intro v22 h23
        exact tr_iret hZ dX12_veinAt_56 rfl (by decide) (by decide) ⟨v22, rfl, rfl, rfl, rfl, rfl, rfl, rfl, trivial⟩
      · skip
        refine tr_aload_n dX12_veinAt_17 hl9 ?_
        obtain ⟨a24, d25, ta24⟩ := rf15_27 hW0 ta0
        refine tr_getR dX12_veinAt_18 fl12_46 (kR15 hW0 ta0) d25 ?_
        refine q_sipush dX12_veinAt_21 (by decide +kernel) ?_
        intro v26 h27
        refine tr_iload_n dX12_veinAt_24 hl10 ?_
        refine q_imulE (c := 240) dX12_veinAt_25 (by exact om_0c59d38e h27) (by exact om_070681a3 hx1.2 hx1.1) ?_
        intro v28 h29
        refine tr_iload dX12_veinAt_26 hl13 ?_
        refine q_iaddE dX12_veinAt_28 (by intro j1 j2 j3 j4; exact om_700c4f0d hx1.2 hx1.1 g14 b19 b20.2 h21 h29 j1 j2 j4) ?_
        intro v30 h31
        refine q_iald dX12_veinAt_29 (kR87 hW0 ta24) (ti_in (nR87 hW0 ta24) (by exact om_9c08e419 hx1.2 hx1.1 g14 b19 b20.2 h21 h29 h31) (by exact om_2c2c3789 hx1.2 hx1.1 g14 b19 b20.2 h21 h29 h31)) ?_
        intro v32 c33
        refine q_bipush dX12_veinAt_30 (by decide +kernel) ?_
        intro v34 h35
        refine q_icmp_ne 38 dX12_veinAt_32 (by decide) (fun h36 => ?_) (fun h36 => ?_)
        · skip
          refine tr_iload_n dX12_veinAt_38 hl12 ?_
          refine tr_iload_n dX12_veinAt_39 hl11 ?_
          refine q_icmp_ne 46 dX12_veinAt_40 (by decide) (fun h37 => ?_) (fun h37 => ?_)
          · skip
            refine q_iinc dX12_veinAt_46 hl12 (by decide) ?_
            intro v38
            refine q_iincE dX12_veinAt_49 hl13 (by decide) (by decide) (by intro j1 j2; exact om_d343ac8d g14 b19 b20.2 h21 h29 h31 j2) ?_
            intro v39 h40
            refine tr_goto 5 dX12_veinAt_52 (by decide) ?_
            exact ih15 _ v38 v39 hl9 hl10 hl11 rfl rfl (by exact om_160ea00f g14 h29 h31 h40) (by exact om_d649932f g14 hm15 b19 b20.2 h21 h29 h31 h36 h37 h40)
          · skip
            refine tr_iload dX12_veinAt_43 hl13 ?_
            exact tr_iret hZ dX12_veinAt_45 rfl (by decide) (by decide) ⟨v8, rfl, rfl, rfl, rfl, rfl, rfl, rfl, trivial⟩
        · skip
          refine tr_goto 49 dX12_veinAt_35 (by decide) ?_
          refine q_iincE dX12_veinAt_49 hl13 (by decide) (by decide) (by intro j1 j2; exact om_d343ac8d g14 b19 b20.2 h21 h29 h31 j2) ?_
          intro v41 h42
          refine tr_goto 5 dX12_veinAt_52 (by decide) ?_
          exact ih15 _ v7 v41 hl9 hl10 hl11 hl12 rfl (by exact om_160ea00f g14 h29 h31 h42) (by exact om_5d916b8d g14 hm15 b19 b20.2 h21 h29 h31 h42)
  exact lp15 _ _ v3 v5 rfl rfl rfl rfl rfl (by exact om_d99fa9e4 h6) (Nat.lt_succ_self _)
def wi_X12_vein : List Nat := [960, 961, 962, 5247, 5311, 5375, 5439, 5503, 5567, 5631, 5695, 5759, 5823, 5887, 5951, 6015]
def wr_X12_vein : List Nat := []
set_option maxHeartbeats 4000000 in
theorem k_X12_vein {l : Launch} {T : Nat → Nat} {cn : Nat} {K N : Nat → Nat} {I0 : cz_I} {R0 : cz_R} {L0 : cz_L} {d : Int} (hW0 : Wf T cn K N I0 R0 d) {a0 : Nat} (ta0 : T a0 = 15) {x1 : Int32} {x2 : Int32} : ConE l mX12_vein [.ref a0, .int x1, .int x2] cn K N I0 R0 L0 (ca_i (fun v cn' K' N' I' R' L' => cn = cn' ∧ K = K' ∧ N = N' ∧ R0 = R' ∧ L0 = L' ∧ St T cn K N d wi_X12_vein wr_X12_vein I0 R0 I' R0 ∧ True)) := by
  refine ConE.of (by decide +kernel) rfl (Nat.le_of_ble_eq_true rfl) rfl (fun X hX hZ hE => ?_)
  subst hX
  have hS0 : St T cn K N d wi_X12_vein wr_X12_vein I0 R0 I0 R0 := St.rf0 hW0
  rcases rf15_3 hW0 ta0 with d2 | ⟨a1, d2, ta1⟩
  · skip
    refine tr_aload_n dX12_vein_0 rfl ?_
    refine q_iconst dX12_vein_1 (by decide) ?_
    intro v3 h4
    refine q_putI dX12_vein_2 fl12_70 (kR15 hS0.1 ta0) (Or.inl rfl) hS0 ta0 (iokF rfl) rfl (by decide +kernel) ?_
    intro I5 hS6 e7 f8
    refine tr_aload_n dX12_vein_5 rfl ?_
    refine tr_iload_n dX12_vein_6 rfl ?_
    refine q_callVi hE (M' := mX12_isCheese) (as := [_]) dX12_vein_7 lk12_461 inX12_isCheese seX12_isCheese myX12_isCheese (by decide) ⟨by decide, by decide⟩ rfl (kR15 hS6.1 ta0) (Nat.le_of_ble_eq_true rfl) rfl rfl (by decide) (by decide) (k_X12_isCheese hS6.1 ta0) ?_
    rintro v13 cn' K' N' I9 R10 L11 ⟨rfl, rfl, rfl, rfl, rfl, rfl, h14, p15, p16, -⟩
    have p17 := (p16 d2)
    refine q_if_ne 19 dX12_vein_10 (by decide) (fun h18 => ?_) (fun h18 => ?_)
    · skip
      exfalso; exact om_3a97d4a5 p17 h18
    · skip
      refine tr_aload_n dX12_vein_13 rfl ?_
      refine q_iconst dX12_vein_14 (by decide) ?_
      intro v19 h20
      refine q_callVi hE (M' := mX12_refused) (as := [_]) dX12_vein_15 lk12_76 inX12_refused seX12_refused myX12_refused (by decide) ⟨by decide, by decide⟩ rfl (kR15 hS6.1 ta0) (Nat.le_of_ble_eq_true rfl) rfl rfl (by decide) (by decide) (k_X12_refused hS6.1 ta0) ?_
      rintro v25 cn' K' N' I21 R22 L23 ⟨rfl, rfl, rfl, rfl, rfl, g24, -⟩
      have hS26 := hS6.tr g24 (by decide +kernel) (by decide +kernel)
      have c27 : I21 a0 0 = v3 := (g24.cell ta0 (by decide +kernel)).trans e7
      exact tr_iret hZ dX12_vein_18 rfl (by decide) (by decide) ⟨v25, rfl, rfl, rfl, rfl, rfl, rfl, hS26, trivial⟩
  · skip
    refine tr_aload_n dX12_vein_0 rfl ?_
    refine q_iconst dX12_vein_1 (by decide) ?_
    intro v28 h29
    refine q_putI dX12_vein_2 fl12_70 (kR15 hS0.1 ta0) (Or.inl rfl) hS0 ta0 (iokF rfl) rfl (by decide +kernel) ?_
    intro I30 hS31 e32 f33
    refine tr_aload_n dX12_vein_5 rfl ?_
    refine tr_iload_n dX12_vein_6 rfl ?_
    refine q_callVi hE (M' := mX12_isCheese) (as := [_]) dX12_vein_7 lk12_461 inX12_isCheese seX12_isCheese myX12_isCheese (by decide) ⟨by decide, by decide⟩ rfl (kR15 hS31.1 ta0) (Nat.le_of_ble_eq_true rfl) rfl rfl (by decide) (by decide) (k_X12_isCheese hS31.1 ta0) ?_
    rintro v38 cn' K' N' I34 R35 L36 ⟨rfl, rfl, rfl, rfl, rfl, rfl, h39, p40, p41, -⟩
    refine q_if_ne 19 dX12_vein_10 (by decide) (fun h42 => ?_) (fun h42 => ?_)
    · skip
      refine tr_aload_n dX12_vein_19 rfl ?_
      refine q_callVi hE (M' := mX12_tonight) (as := []) dX12_vein_20 lk12_455 inX12_tonight seX12_tonight myX12_tonight (by decide) ⟨by decide, by decide⟩ rfl (kR15 hS31.1 ta0) (Nat.le_of_ble_eq_true rfl) rfl rfl (by decide) (by decide) (k_X12_tonight hS31.1 ta0 ⟨_, d2⟩) ?_
      rintro v47 cn' K' N' I43 R44 L45 ⟨rfl, rfl, rfl, rfl, rfl, g46, -⟩
      have hS48 := hS31.tr g46 (by decide +kernel) (by decide +kernel)
      have c49 : I43 a0 0 = v28 := (g46.cell ta0 (by decide +kernel)).trans e32
      refine tr_pop dX12_vein_23 rfl ?_
      refine tr_aload_n dX12_vein_24 rfl ?_
      refine tr_iload_n dX12_vein_25 rfl ?_
      refine tr_iload_n dX12_vein_26 rfl ?_
      refine q_callVi hE (M' := mX12_veinAt) (as := [_, _]) dX12_vein_27 lk12_464 inX12_veinAt seX12_veinAt myX12_veinAt (by decide) ⟨by decide, by decide⟩ rfl (kR15 hS48.1 ta0) (Nat.le_of_ble_eq_true rfl) rfl rfl (by decide) (by decide) (k_X12_veinAt hS48.1 ta0 (by exact om_16e977f5 h39.2 h39.1 p40 h42) ⟨_, d2⟩) ?_
      rintro v54 cn' K' N' I50 R51 L52 ⟨rfl, rfl, rfl, rfl, rfl, rfl, -⟩
      refine tr_istore_n dX12_vein_30 (by decide) (by decide) ?_
      refine tr_iload_n dX12_vein_31 rfl ?_
      refine q_iconst dX12_vein_32 (by decide) ?_
      intro v55 h56
      refine q_icmp_ne 44 dX12_vein_33 (by decide) (fun h57 => ?_) (fun h57 => ?_)
      · skip
        refine tr_aload_n dX12_vein_44 rfl ?_
        refine tr_iload_n dX12_vein_45 rfl ?_
        refine q_callVi hE (M' := mX12_good) (as := [_]) dX12_vein_46 lk12_81 inX12_good seX12_good myX12_good (by decide) ⟨by decide, by decide⟩ rfl (kR15 hS48.1 ta0) (Nat.le_of_ble_eq_true rfl) rfl rfl (by decide) (by decide) (k_X12_good hS48.1 ta0) ?_
        rintro v62 cn' K' N' I58 R59 L60 ⟨rfl, rfl, rfl, rfl, rfl, g61, -⟩
        have hS63 := hS48.tr g61 (by decide +kernel) (by decide +kernel)
        have c64 : I58 a0 0 = v28 := (g61.cell ta0 (by decide +kernel)).trans c49
        exact tr_iret hZ dX12_vein_49 rfl (by decide) (by decide) ⟨v62, rfl, rfl, rfl, rfl, rfl, rfl, hS63, trivial⟩
      · skip
        refine tr_aload_n dX12_vein_36 rfl ?_
        refine q_iconst dX12_vein_37 (by decide) ?_
        intro v65 h66
        refine q_callVi hE (M' := mX12_refused) (as := [_]) dX12_vein_38 lk12_76 inX12_refused seX12_refused myX12_refused (by decide) ⟨by decide, by decide⟩ rfl (kR15 hS48.1 ta0) (Nat.le_of_ble_eq_true rfl) rfl rfl (by decide) (by decide) (k_X12_refused hS48.1 ta0) ?_
        rintro v71 cn' K' N' I67 R68 L69 ⟨rfl, rfl, rfl, rfl, rfl, g70, -⟩
        have hS72 := hS48.tr g70 (by decide +kernel) (by decide +kernel)
        have c73 : I67 a0 0 = v28 := (g70.cell ta0 (by decide +kernel)).trans c49
        refine tr_goto 49 dX12_vein_41 (by decide) ?_
        exact tr_iret hZ dX12_vein_49 rfl (by decide) (by decide) ⟨v71, rfl, rfl, rfl, rfl, rfl, rfl, hS72, trivial⟩
    · skip
      refine tr_aload_n dX12_vein_13 rfl ?_
      refine q_iconst dX12_vein_14 (by decide) ?_
      intro v74 h75
      refine q_callVi hE (M' := mX12_refused) (as := [_]) dX12_vein_15 lk12_76 inX12_refused seX12_refused myX12_refused (by decide) ⟨by decide, by decide⟩ rfl (kR15 hS31.1 ta0) (Nat.le_of_ble_eq_true rfl) rfl rfl (by decide) (by decide) (k_X12_refused hS31.1 ta0) ?_
      rintro v80 cn' K' N' I76 R77 L78 ⟨rfl, rfl, rfl, rfl, rfl, g79, -⟩
      have hS81 := hS31.tr g79 (by decide +kernel) (by decide +kernel)
      have c82 : I76 a0 0 = v28 := (g79.cell ta0 (by decide +kernel)).trans e32
      exact tr_iret hZ dX12_vein_18 rfl (by decide) (by decide) ⟨v80, rfl, rfl, rfl, rfl, rfl, rfl, hS81, trivial⟩
def wi_X12_cause : List Nat := [960, 961, 962, 5247, 5311, 5375, 5439, 5503, 5567, 5631, 5695, 5759, 5823, 5887, 5951, 6015]
def wr_X12_cause : List Nat := []
set_option maxHeartbeats 4000000 in
theorem k_X12_cause {l : Launch} {T : Nat → Nat} {cn : Nat} {K N : Nat → Nat} {I0 : cz_I} {R0 : cz_R} {L0 : cz_L} {d : Int} (hW0 : Wf T cn K N I0 R0 d) {a0 : Nat} (ta0 : T a0 = 15) {x1 : Int32} {x2 : Int32} : ConE l mX12_cause [.ref a0, .int x1, .int x2] cn K N I0 R0 L0 (ca_i (fun v cn' K' N' I' R' L' => cn = cn' ∧ K = K' ∧ N = N' ∧ R0 = R' ∧ L0 = L' ∧ St T cn K N d wi_X12_cause wr_X12_cause I0 R0 I' R0 ∧ True)) := by
  refine ConE.of (by decide +kernel) rfl (Nat.le_of_ble_eq_true rfl) rfl (fun X hX hZ hE => ?_)
  subst hX
  have hS0 : St T cn K N d wi_X12_cause wr_X12_cause I0 R0 I0 R0 := St.rf0 hW0
  rcases rf15_3 hW0 ta0 with d2 | ⟨a1, d2, ta1⟩
  · skip
    refine tr_aload_n dX12_cause_0 rfl ?_
    refine q_iconst dX12_cause_1 (by decide) ?_
    intro v3 h4
    refine q_putI dX12_cause_2 fl12_70 (kR15 hS0.1 ta0) (Or.inl rfl) hS0 ta0 (iokF rfl) rfl (by decide +kernel) ?_
    intro I5 hS6 e7 f8
    refine tr_aload_n dX12_cause_5 rfl ?_
    refine tr_iload_n dX12_cause_6 rfl ?_
    refine q_callVi hE (M' := mX12_isCheese) (as := [_]) dX12_cause_7 lk12_461 inX12_isCheese seX12_isCheese myX12_isCheese (by decide) ⟨by decide, by decide⟩ rfl (kR15 hS6.1 ta0) (Nat.le_of_ble_eq_true rfl) rfl rfl (by decide) (by decide) (k_X12_isCheese hS6.1 ta0) ?_
    rintro v13 cn' K' N' I9 R10 L11 ⟨rfl, rfl, rfl, rfl, rfl, rfl, h14, p15, p16, -⟩
    have p17 := (p16 d2)
    refine q_if_ne 19 dX12_cause_10 (by decide) (fun h18 => ?_) (fun h18 => ?_)
    · skip
      exfalso; exact om_3a97d4a5 p17 h18
    · skip
      refine tr_aload_n dX12_cause_13 rfl ?_
      refine q_iconst dX12_cause_14 (by decide) ?_
      intro v19 h20
      refine q_callVi hE (M' := mX12_refused) (as := [_]) dX12_cause_15 lk12_76 inX12_refused seX12_refused myX12_refused (by decide) ⟨by decide, by decide⟩ rfl (kR15 hS6.1 ta0) (Nat.le_of_ble_eq_true rfl) rfl rfl (by decide) (by decide) (k_X12_refused hS6.1 ta0) ?_
      rintro v25 cn' K' N' I21 R22 L23 ⟨rfl, rfl, rfl, rfl, rfl, g24, -⟩
      have hS26 := hS6.tr g24 (by decide +kernel) (by decide +kernel)
      have c27 : I21 a0 0 = v3 := (g24.cell ta0 (by decide +kernel)).trans e7
      exact tr_iret hZ dX12_cause_18 rfl (by decide) (by decide) ⟨v25, rfl, rfl, rfl, rfl, rfl, rfl, hS26, trivial⟩
  · skip
    refine tr_aload_n dX12_cause_0 rfl ?_
    refine q_iconst dX12_cause_1 (by decide) ?_
    intro v28 h29
    refine q_putI dX12_cause_2 fl12_70 (kR15 hS0.1 ta0) (Or.inl rfl) hS0 ta0 (iokF rfl) rfl (by decide +kernel) ?_
    intro I30 hS31 e32 f33
    refine tr_aload_n dX12_cause_5 rfl ?_
    refine tr_iload_n dX12_cause_6 rfl ?_
    refine q_callVi hE (M' := mX12_isCheese) (as := [_]) dX12_cause_7 lk12_461 inX12_isCheese seX12_isCheese myX12_isCheese (by decide) ⟨by decide, by decide⟩ rfl (kR15 hS31.1 ta0) (Nat.le_of_ble_eq_true rfl) rfl rfl (by decide) (by decide) (k_X12_isCheese hS31.1 ta0) ?_
    rintro v38 cn' K' N' I34 R35 L36 ⟨rfl, rfl, rfl, rfl, rfl, rfl, h39, p40, p41, -⟩
    refine q_if_ne 19 dX12_cause_10 (by decide) (fun h42 => ?_) (fun h42 => ?_)
    · skip
      refine tr_aload_n dX12_cause_19 rfl ?_
      refine q_callVi hE (M' := mX12_tonight) (as := []) dX12_cause_20 lk12_455 inX12_tonight seX12_tonight myX12_tonight (by decide) ⟨by decide, by decide⟩ rfl (kR15 hS31.1 ta0) (Nat.le_of_ble_eq_true rfl) rfl rfl (by decide) (by decide) (k_X12_tonight hS31.1 ta0 ⟨_, d2⟩) ?_
      rintro v47 cn' K' N' I43 R44 L45 ⟨rfl, rfl, rfl, rfl, rfl, g46, -⟩
      have hS48 := hS31.tr g46 (by decide +kernel) (by decide +kernel)
      have c49 : I43 a0 0 = v28 := (g46.cell ta0 (by decide +kernel)).trans e32
      refine tr_pop dX12_cause_23 rfl ?_
      refine tr_aload_n dX12_cause_24 rfl ?_
      refine tr_iload_n dX12_cause_25 rfl ?_
      refine tr_iload_n dX12_cause_26 rfl ?_
      refine q_callVi hE (M' := mX12_veinAt) (as := [_, _]) dX12_cause_27 lk12_464 inX12_veinAt seX12_veinAt myX12_veinAt (by decide) ⟨by decide, by decide⟩ rfl (kR15 hS48.1 ta0) (Nat.le_of_ble_eq_true rfl) rfl rfl (by decide) (by decide) (k_X12_veinAt hS48.1 ta0 (by exact om_16e977f5 h39.2 h39.1 p40 h42) ⟨_, d2⟩) ?_
      rintro v54 cn' K' N' I50 R51 L52 ⟨rfl, rfl, rfl, rfl, rfl, rfl, -⟩
      refine tr_istore_n dX12_cause_30 (by decide) (by decide) ?_
      refine tr_iload_n dX12_cause_31 rfl ?_
      refine q_iconst dX12_cause_32 (by decide) ?_
      intro v55 h56
      refine q_icmp_ne 42 dX12_cause_33 (by decide) (fun h57 => ?_) (fun h57 => ?_)
      · skip
        refine q_iconst dX12_cause_42 (by decide) ?_
        intro v58 h59
        refine tr_istore dX12_cause_43 (by decide) (by decide) ?_
        have lp69 : ∀ (fu : Nat) (ls : Nat → Option Value) (v60 : Int32) (I66 : cz_I), ls 0 = some (.ref a0) → ls 1 = some (.int x1) → ls 2 = some (.int x2) → ls 3 = some (.int v54) → ls 4 = some (.int v60) → St T cn K N d wi_X12_cause wr_X12_cause I0 R0 I66 R0 → 0 ≤ v60.toInt → (-v60.toInt + 2147483647).toNat < fu → Tr X mX12_cause 45 ls [] cn K N I66 R0 L0 0 0 := by
          intro fu
          induction fu with
          | zero => intros; rename_i hz; exact absurd hz (Nat.not_lt_zero _)
          | succ fu ih69 =>
            intro ls v60 I66 hl61 hl62 hl63 hl64 hl65 hS67 g68 hm69
            refine tr_iload dX12_cause_45 hl65 ?_
            refine tr_aload_n dX12_cause_47 hl61 ?_
            obtain ⟨v71, c72⟩ : ∃ v, I0 a1 2 = v := ⟨_, rfl⟩
            have b73 := iv14_2 hW0 ta1 c72
            obtain ⟨a74, d75, ta74⟩ := rf15_16 hW0 ta0
            obtain ⟨v76, c77⟩ : ∃ v, I0 a74 1 = v := ⟨_, rfl⟩
            have b78 := iv77_1 hW0 ta74 (by decide) c77
            refine q_callVi hE (M' := mX12_events) (as := []) dX12_cause_48 lk12_393 inX12_events seX12_events myX12_events (by decide) ⟨by decide, by decide⟩ rfl (kR15 hS67.1 ta0) (Nat.le_of_ble_eq_true rfl) rfl rfl (by decide) (by decide) (k_X12_events hS67.1 ta0 ⟨_, d2⟩) ?_
            rintro v83 cn' K' N' I79 R80 L81 ⟨rfl, rfl, rfl, rfl, rfl, rfl, h84, p85, -⟩
            have p86 := p85 _ d2 _ d75
            clear p85
            rw [((hS67.cell ta1 (by decide +kernel)).trans c72)] at p86
            rw [((hS67.cell ta74 (by decide +kernel)).trans c77)] at p86
            refine q_icmp_ge 87 dX12_cause_51 (by decide) (fun h87 => ?_) (fun h87 => ?_)
            · skip
              refine tr_aload_n dX12_cause_87 hl61 ?_
              refine q_bipush dX12_cause_88 (by decide +kernel) ?_
              intro v88 h89
              refine q_callVi hE (M' := mX12_good) (as := [_]) dX12_cause_90 lk12_81 inX12_good seX12_good myX12_good (by decide) ⟨by decide, by decide⟩ rfl (kR15 hS67.1 ta0) (Nat.le_of_ble_eq_true rfl) rfl rfl (by decide) (by decide) (k_X12_good hS67.1 ta0) ?_
              rintro v94 cn' K' N' I90 R91 L92 ⟨rfl, rfl, rfl, rfl, rfl, g93, -⟩
              have hS95 := hS67.tr g93 (by decide +kernel) (by decide +kernel)
              exact tr_iret hZ dX12_cause_93 rfl (by decide) (by decide) ⟨v94, rfl, rfl, rfl, rfl, rfl, rfl, hS95, trivial⟩
            · skip
              refine tr_aload_n dX12_cause_54 hl61 ?_
              refine tr_iload dX12_cause_55 hl65 ?_
              refine q_callVi hE (M' := mX12_fromOf) (as := [_]) dX12_cause_57 lk12_395 inX12_fromOf seX12_fromOf myX12_fromOf (by decide) ⟨by decide, by decide⟩ rfl (kR15 hS67.1 ta0) (Nat.le_of_ble_eq_true rfl) rfl rfl (by decide) (by decide) (k_X12_fromOf hS67.1 ta0 (by exact om_2cfcd5a5 g68) (fun q0 z0 => fun q1 z1 => by obtain rfl := Option.some.inj ((d2).symm.trans z0); obtain rfl := Option.some.inj ((d75).symm.trans z1); (try rw [((hS67.cell ta1 (by decide +kernel)).trans c72)]); (try rw [((hS67.cell ta74 (by decide +kernel)).trans c77)]); (try exact om_af2a18fa p86 h87)) ⟨_, d2⟩) ?_
              rintro v100 cn' K' N' I96 R97 L98 ⟨rfl, rfl, rfl, rfl, rfl, rfl, h101, -⟩
              refine tr_iload_n dX12_cause_60 hl64 ?_
              refine q_icmp_eq 74 dX12_cause_61 (by decide) (fun h102 => ?_) (fun h102 => ?_)
              · skip
                refine tr_aload_n dX12_cause_74 hl61 ?_
                refine tr_iload dX12_cause_75 hl65 ?_
                refine q_callVi hE (M' := mX12_good) (as := [_]) dX12_cause_77 lk12_81 inX12_good seX12_good myX12_good (by decide) ⟨by decide, by decide⟩ rfl (kR15 hS67.1 ta0) (Nat.le_of_ble_eq_true rfl) rfl rfl (by decide) (by decide) (k_X12_good hS67.1 ta0) ?_
                rintro v107 cn' K' N' I103 R104 L105 ⟨rfl, rfl, rfl, rfl, rfl, g106, -⟩
                have hS108 := hS67.tr g106 (by decide +kernel) (by decide +kernel)
                exact tr_iret hZ dX12_cause_80 rfl (by decide) (by decide) ⟨v107, rfl, rfl, rfl, rfl, rfl, rfl, hS108, trivial⟩
              · skip
                refine tr_aload_n dX12_cause_64 hl61 ?_
                refine tr_iload dX12_cause_65 hl65 ?_
                refine q_callVi hE (M' := mX12_toOf) (as := [_]) dX12_cause_67 lk12_398 inX12_toOf seX12_toOf myX12_toOf (by decide) ⟨by decide, by decide⟩ rfl (kR15 hS67.1 ta0) (Nat.le_of_ble_eq_true rfl) rfl rfl (by decide) (by decide) (k_X12_toOf hS67.1 ta0 (by exact om_2cfcd5a5 g68) (fun q0 z0 => fun q1 z1 => by obtain rfl := Option.some.inj ((d2).symm.trans z0); obtain rfl := Option.some.inj ((d75).symm.trans z1); (try rw [((hS67.cell ta1 (by decide +kernel)).trans c72)]); (try rw [((hS67.cell ta74 (by decide +kernel)).trans c77)]); (try exact om_af2a18fa p86 h87)) ⟨_, d2⟩) ?_
                rintro v113 cn' K' N' I109 R110 L111 ⟨rfl, rfl, rfl, rfl, rfl, rfl, h114, -⟩
                refine tr_iload_n dX12_cause_70 hl64 ?_
                refine q_icmp_ne 81 dX12_cause_71 (by decide) (fun h115 => ?_) (fun h115 => ?_)
                · skip
                  refine q_iincE dX12_cause_81 hl65 (by decide) (by decide) (by intro j1 j2; exact om_8a01fdcf g68 h84.2 h84.1 h87 j2) ?_
                  intro v116 h117
                  refine tr_goto 45 dX12_cause_84 (by decide) ?_
                  exact ih69 _ v116 I66 hl61 hl62 hl63 hl64 rfl hS67 (by exact om_68881c41 g68 h117) (by exact om_43ba554c g68 hm69 h84.2 h84.1 h87 h102 h115 h117)
                · skip
                  refine tr_aload_n dX12_cause_74 hl61 ?_
                  refine tr_iload dX12_cause_75 hl65 ?_
                  refine q_callVi hE (M' := mX12_good) (as := [_]) dX12_cause_77 lk12_81 inX12_good seX12_good myX12_good (by decide) ⟨by decide, by decide⟩ rfl (kR15 hS67.1 ta0) (Nat.le_of_ble_eq_true rfl) rfl rfl (by decide) (by decide) (k_X12_good hS67.1 ta0) ?_
                  rintro v122 cn' K' N' I118 R119 L120 ⟨rfl, rfl, rfl, rfl, rfl, g121, -⟩
                  have hS123 := hS67.tr g121 (by decide +kernel) (by decide +kernel)
                  exact tr_iret hZ dX12_cause_80 rfl (by decide) (by decide) ⟨v122, rfl, rfl, rfl, rfl, rfl, rfl, hS123, trivial⟩
        exact lp69 _ _ v58 I43 rfl rfl rfl rfl rfl hS48 (by exact om_d99fa9e4 h59) (Nat.lt_succ_self _)
      · skip
        refine tr_aload_n dX12_cause_36 rfl ?_
        refine q_iconst dX12_cause_37 (by decide) ?_
        intro v124 h125
        refine q_callVi hE (M' := mX12_refused) (as := [_]) dX12_cause_38 lk12_76 inX12_refused seX12_refused myX12_refused (by decide) ⟨by decide, by decide⟩ rfl (kR15 hS48.1 ta0) (Nat.le_of_ble_eq_true rfl) rfl rfl (by decide) (by decide) (k_X12_refused hS48.1 ta0) ?_
        rintro v130 cn' K' N' I126 R127 L128 ⟨rfl, rfl, rfl, rfl, rfl, g129, -⟩
        have hS131 := hS48.tr g129 (by decide +kernel) (by decide +kernel)
        have c132 : I126 a0 0 = v28 := (g129.cell ta0 (by decide +kernel)).trans c49
        exact tr_iret hZ dX12_cause_41 rfl (by decide) (by decide) ⟨v130, rfl, rfl, rfl, rfl, rfl, rfl, hS131, trivial⟩
    · skip
      refine tr_aload_n dX12_cause_13 rfl ?_
      refine q_iconst dX12_cause_14 (by decide) ?_
      intro v133 h134
      refine q_callVi hE (M' := mX12_refused) (as := [_]) dX12_cause_15 lk12_76 inX12_refused seX12_refused myX12_refused (by decide) ⟨by decide, by decide⟩ rfl (kR15 hS31.1 ta0) (Nat.le_of_ble_eq_true rfl) rfl rfl (by decide) (by decide) (k_X12_refused hS31.1 ta0) ?_
      rintro v139 cn' K' N' I135 R136 L137 ⟨rfl, rfl, rfl, rfl, rfl, g138, -⟩
      have hS140 := hS31.tr g138 (by decide +kernel) (by decide +kernel)
      have c141 : I135 a0 0 = v28 := (g138.cell ta0 (by decide +kernel)).trans e32
      exact tr_iret hZ dX12_cause_18 rfl (by decide) (by decide) ⟨v139, rfl, rfl, rfl, rfl, rfl, rfl, hS140, trivial⟩
def wi_X12_total : List Nat := [960, 961, 962, 5247, 5311, 5375, 5439, 5503, 5567, 5631, 5695, 5759, 5823, 5887, 5951, 6015]
def wr_X12_total : List Nat := []
set_option maxHeartbeats 4000000 in
theorem k_X12_total {l : Launch} {T : Nat → Nat} {cn : Nat} {K N : Nat → Nat} {I0 : cz_I} {R0 : cz_R} {L0 : cz_L} {d : Int} (hW0 : Wf T cn K N I0 R0 d) {a0 : Nat} (ta0 : T a0 = 15) : ConE l mX12_total [.ref a0] cn K N I0 R0 L0 (ca_i (fun v cn' K' N' I' R' L' => cn = cn' ∧ K = K' ∧ N = N' ∧ R0 = R' ∧ L0 = L' ∧ St T cn K N d wi_X12_total wr_X12_total I0 R0 I' R0 ∧ True)) := by
  refine ConE.of (by decide +kernel) rfl (Nat.le_of_ble_eq_true rfl) rfl (fun X hX hZ hE => ?_)
  subst hX
  have hS0 : St T cn K N d wi_X12_total wr_X12_total I0 R0 I0 R0 := St.rf0 hW0
  rcases rf15_3 hW0 ta0 with d2 | ⟨a1, d2, ta1⟩
  · skip
    refine tr_aload_n dX12_total_0 rfl ?_
    refine q_iconst dX12_total_1 (by decide) ?_
    intro v3 h4
    refine q_putI dX12_total_2 fl12_70 (kR15 hS0.1 ta0) (Or.inl rfl) hS0 ta0 (iokF rfl) rfl (by decide +kernel) ?_
    intro I5 hS6 e7 f8
    refine tr_aload_n dX12_total_5 rfl ?_
    refine tr_getN dX12_total_6 fl12_385 (kR15 hS6.1 ta0) d2 ?_
    refine tr_ifnonnullN dX12_total_9 ?_
    refine tr_aload_n dX12_total_12 rfl ?_
    refine q_iconst dX12_total_13 (by decide) ?_
    intro v9 h10
    refine q_callVi hE (M' := mX12_lost) (as := [_]) dX12_total_14 lk12_458 inX12_lost seX12_lost myX12_lost (by decide) ⟨by decide, by decide⟩ rfl (kR15 hS6.1 ta0) (Nat.le_of_ble_eq_true rfl) rfl rfl (by decide) (by decide) (k_X12_lost hS6.1 ta0) ?_
    rintro v15 cn' K' N' I11 R12 L13 ⟨rfl, rfl, rfl, rfl, rfl, g14, -⟩
    have hS16 := hS6.tr g14 (by decide +kernel) (by decide +kernel)
    have c17 : I11 a0 0 = v3 := (g14.cell ta0 (by decide +kernel)).trans e7
    refine tr_goto 28 dX12_total_17 (by decide) ?_
    exact tr_iret hZ dX12_total_28 rfl (by decide) (by decide) ⟨v15, rfl, rfl, rfl, rfl, rfl, rfl, hS16, trivial⟩
  · skip
    refine tr_aload_n dX12_total_0 rfl ?_
    refine q_iconst dX12_total_1 (by decide) ?_
    intro v18 h19
    refine q_putI dX12_total_2 fl12_70 (kR15 hS0.1 ta0) (Or.inl rfl) hS0 ta0 (iokF rfl) rfl (by decide +kernel) ?_
    intro I20 hS21 e22 f23
    refine tr_aload_n dX12_total_5 rfl ?_
    refine tr_getR dX12_total_6 fl12_385 (kR15 hS21.1 ta0) d2 ?_
    refine tr_ifnonnull 20 dX12_total_9 (by decide) ?_
    refine tr_aload_n dX12_total_20 rfl ?_
    refine tr_aload_n dX12_total_21 rfl ?_
    refine q_callVi hE (M' := mX12_tonight) (as := []) dX12_total_22 lk12_455 inX12_tonight seX12_tonight myX12_tonight (by decide) ⟨by decide, by decide⟩ rfl (kR15 hS21.1 ta0) (Nat.le_of_ble_eq_true rfl) rfl rfl (by decide) (by decide) (k_X12_tonight hS21.1 ta0 ⟨_, d2⟩) ?_
    rintro v28 cn' K' N' I24 R25 L26 ⟨rfl, rfl, rfl, rfl, rfl, g27, -⟩
    have hS29 := hS21.tr g27 (by decide +kernel) (by decide +kernel)
    have c30 : I24 a0 0 = v18 := (g27.cell ta0 (by decide +kernel)).trans e22
    refine q_callVi hE (M' := mX12_good) (as := [_]) dX12_total_25 lk12_81 inX12_good seX12_good myX12_good (by decide) ⟨by decide, by decide⟩ rfl (kR15 hS29.1 ta0) (Nat.le_of_ble_eq_true rfl) rfl rfl (by decide) (by decide) (k_X12_good hS29.1 ta0) ?_
    rintro v35 cn' K' N' I31 R32 L33 ⟨rfl, rfl, rfl, rfl, rfl, g34, -⟩
    have hS36 := hS29.tr g34 (by decide +kernel) (by decide +kernel)
    have c37 : I31 a0 0 = v18 := (g34.cell ta0 (by decide +kernel)).trans c30
    exact tr_iret hZ dX12_total_28 rfl (by decide) (by decide) ⟨v35, rfl, rfl, rfl, rfl, rfl, rfl, hS36, trivial⟩
set_option maxHeartbeats 4000000 in
theorem k_X12_isEvent {l : Launch} {T : Nat → Nat} {cn : Nat} {K N : Nat → Nat} {I0 : cz_I} {R0 : cz_R} {L0 : cz_L} {d : Int} (hW0 : Wf T cn K N I0 R0 d) {a0 : Nat} (ta0 : T a0 = 15) {x1 : Int32} : ConE l mX12_isEvent [.ref a0, .int x1] cn K N I0 R0 L0 (ca_i (fun v cn' K' N' I' R' L' => cn = cn' ∧ K = K' ∧ N = N' ∧ I0 = I' ∧ R0 = R' ∧ L0 = L' ∧ (0 ≤ v.toInt ∧ v.toInt ≤ 1) ∧ (∀ b1, R0 a0 3 = some b1 → ∀ b2, R0 a0 16 = some b2 → (v.toInt = 1 → (0 ≤ x1.toInt ∧ x1.toInt < (I0 b1 2).toInt + (I0 b2 1).toInt))) ∧ (R0 a0 3 = none → v.toInt = 0) ∧ True)) := by
  refine ConE.of (by decide +kernel) rfl (Nat.le_of_ble_eq_true rfl) rfl (fun X hX hZ hE => ?_)
  subst hX
  obtain ⟨a1, d2, ta1⟩ := rf15_16 hW0 ta0
  obtain ⟨v3, c4⟩ : ∃ v, I0 a1 1 = v := ⟨_, rfl⟩
  have b5 := iv77_1 hW0 ta1 (by decide) c4
  rcases rf15_3 hW0 ta0 with d7 | ⟨a6, d7, ta6⟩
  · skip
    refine tr_aload_n dX12_isEvent_0 rfl ?_
    refine tr_getN dX12_isEvent_1 fl12_385 (kR15 hW0 ta0) d7 ?_
    refine tr_ifnullN 23 dX12_isEvent_4 (by decide) ?_
    refine q_iconst dX12_isEvent_23 (by decide) ?_
    intro v8 h9
    exact tr_zret hZ dX12_isEvent_24 rfl (ti_b01 (by exact om_d99fa9e4 h9) (by exact om_d3de7ec9 h9)) (by decide) (by decide) ⟨v8, rfl, rfl, rfl, rfl, rfl, rfl, rfl, (by exact om_3b50ecb9 h9), (fun b hb => by rw [d7] at hb; cases hb), (fun _ => by exact om_29f55913 h9), trivial⟩
  · skip
    refine tr_aload_n dX12_isEvent_0 rfl ?_
    refine tr_getR dX12_isEvent_1 fl12_385 (kR15 hW0 ta0) d7 ?_
    refine tr_ifnull dX12_isEvent_4 ?_
    refine tr_iload_n dX12_isEvent_7 rfl ?_
    refine q_if_lt 23 dX12_isEvent_8 (by decide) (fun h10 => ?_) (fun h10 => ?_)
    · skip
      refine q_iconst dX12_isEvent_23 (by decide) ?_
      intro v11 h12
      obtain ⟨v13, c14⟩ : ∃ v, I0 a6 2 = v := ⟨_, rfl⟩
      have b15 := iv14_2 hW0 ta6 c14
      exact tr_zret hZ dX12_isEvent_24 rfl (ti_b01 (by exact om_d99fa9e4 h12) (by exact om_d3de7ec9 h12)) (by decide) (by decide) ⟨v11, rfl, rfl, rfl, rfl, rfl, rfl, rfl, (by exact om_3b50ecb9 h12), (fun q0 z0 => fun q1 z1 => by obtain rfl := Option.some.inj ((d7).symm.trans z0); obtain rfl := Option.some.inj ((d2).symm.trans z1); (try rw [c14]); (try rw [c4]); (try exact om_ff169f22 h12)), (fun z => by rw [d7] at z; cases z), trivial⟩
    · skip
      refine tr_iload_n dX12_isEvent_11 rfl ?_
      refine tr_aload_n dX12_isEvent_12 rfl ?_
      obtain ⟨v16, c17⟩ : ∃ v, I0 a6 2 = v := ⟨_, rfl⟩
      have b18 := iv14_2 hW0 ta6 c17
      refine q_callVi hE (M' := mX12_events) (as := []) dX12_isEvent_13 lk12_393 inX12_events seX12_events myX12_events (by decide) ⟨by decide, by decide⟩ rfl (kR15 hW0 ta0) (Nat.le_of_ble_eq_true rfl) rfl rfl (by decide) (by decide) (k_X12_events hW0 ta0 ⟨_, d7⟩) ?_
      rintro v23 cn' K' N' I19 R20 L21 ⟨rfl, rfl, rfl, rfl, rfl, rfl, h24, p25, -⟩
      have p26 := p25 _ d7 _ d2
      clear p25
      rw [c17] at p26
      rw [c4] at p26
      refine q_icmp_ge 23 dX12_isEvent_16 (by decide) (fun h27 => ?_) (fun h27 => ?_)
      · skip
        refine q_iconst dX12_isEvent_23 (by decide) ?_
        intro v28 h29
        exact tr_zret hZ dX12_isEvent_24 rfl (ti_b01 (by exact om_d99fa9e4 h29) (by exact om_d3de7ec9 h29)) (by decide) (by decide) ⟨v28, rfl, rfl, rfl, rfl, rfl, rfl, rfl, (by exact om_3b50ecb9 h29), (fun q0 z0 => fun q1 z1 => by obtain rfl := Option.some.inj ((d7).symm.trans z0); obtain rfl := Option.some.inj ((d2).symm.trans z1); (try rw [c17]); (try rw [c4]); (try exact om_ff169f22 h29)), (fun z => by rw [d7] at z; cases z), trivial⟩
      · skip
        refine q_iconst dX12_isEvent_19 (by decide) ?_
        intro v30 h31
        refine tr_goto 24 dX12_isEvent_20 (by decide) ?_
        exact tr_zret hZ dX12_isEvent_24 rfl (ti_b01 (by exact om_f9079521 h31) (by exact om_e6632817 h31)) (by decide) (by decide) ⟨v30, rfl, rfl, rfl, rfl, rfl, rfl, rfl, (by exact om_d753bc65 h31), (fun q0 z0 => fun q1 z1 => by obtain rfl := Option.some.inj ((d7).symm.trans z0); obtain rfl := Option.some.inj ((d2).symm.trans z1); (try rw [c17]); (try rw [c4]); (try exact om_412ad837 h10 p26 h27)), (fun z => by rw [d7] at z; cases z), trivial⟩
def wi_X12_without : List Nat := [960, 961, 962, 5247, 5311, 5375, 5439, 5503, 5567, 5631, 5695, 5759, 5823, 5887, 5951, 6015]
def wr_X12_without : List Nat := []
set_option maxHeartbeats 4000000 in
theorem k_X12_without {l : Launch} {T : Nat → Nat} {cn : Nat} {K N : Nat → Nat} {I0 : cz_I} {R0 : cz_R} {L0 : cz_L} {d : Int} (hW0 : Wf T cn K N I0 R0 d) {a0 : Nat} (ta0 : T a0 = 15) {x1 : Int32} : ConE l mX12_without [.ref a0, .int x1] cn K N I0 R0 L0 (ca_i (fun v cn' K' N' I' R' L' => cn = cn' ∧ K = K' ∧ N = N' ∧ R0 = R' ∧ L0 = L' ∧ St T cn K N d wi_X12_without wr_X12_without I0 R0 I' R0 ∧ True)) := by
  refine ConE.of (by decide +kernel) rfl (Nat.le_of_ble_eq_true rfl) rfl (fun X hX hZ hE => ?_)
  subst hX
  have hS0 : St T cn K N d wi_X12_without wr_X12_without I0 R0 I0 R0 := St.rf0 hW0
  rcases rf15_3 hW0 ta0 with d2 | ⟨a1, d2, ta1⟩
  · skip
    refine tr_aload_n dX12_without_0 rfl ?_
    refine q_iconst dX12_without_1 (by decide) ?_
    intro v3 h4
    refine q_putI dX12_without_2 fl12_70 (kR15 hS0.1 ta0) (Or.inl rfl) hS0 ta0 (iokF rfl) rfl (by decide +kernel) ?_
    intro I5 hS6 e7 f8
    refine tr_aload_n dX12_without_5 rfl ?_
    refine tr_iload_n dX12_without_6 rfl ?_
    obtain ⟨a9, d10, ta9⟩ := rf15_16 hW0 ta0
    obtain ⟨v11, c12⟩ : ∃ v, I0 a9 1 = v := ⟨_, rfl⟩
    have b13 := iv77_1 hW0 ta9 (by decide) c12
    refine q_callVi hE (M' := mX12_isEvent) (as := [_]) dX12_without_7 lk12_467 inX12_isEvent seX12_isEvent myX12_isEvent (by decide) ⟨by decide, by decide⟩ rfl (kR15 hS6.1 ta0) (Nat.le_of_ble_eq_true rfl) rfl rfl (by decide) (by decide) (k_X12_isEvent hS6.1 ta0) ?_
    rintro v18 cn' K' N' I14 R15 L16 ⟨rfl, rfl, rfl, rfl, rfl, rfl, h19, p20, p21, -⟩
    have p22 := (p21 d2)
    refine q_if_ne 19 dX12_without_10 (by decide) (fun h23 => ?_) (fun h23 => ?_)
    · skip
      exfalso; exact om_3a97d4a5 p22 h23
    · skip
      refine tr_aload_n dX12_without_13 rfl ?_
      refine q_iconst dX12_without_14 (by decide) ?_
      intro v24 h25
      refine q_callVi hE (M' := mX12_lost) (as := [_]) dX12_without_15 lk12_458 inX12_lost seX12_lost myX12_lost (by decide) ⟨by decide, by decide⟩ rfl (kR15 hS6.1 ta0) (Nat.le_of_ble_eq_true rfl) rfl rfl (by decide) (by decide) (k_X12_lost hS6.1 ta0) ?_
      rintro v30 cn' K' N' I26 R27 L28 ⟨rfl, rfl, rfl, rfl, rfl, g29, -⟩
      have hS31 := hS6.tr g29 (by decide +kernel) (by decide +kernel)
      have c32 : I26 a0 0 = v3 := (g29.cell ta0 (by decide +kernel)).trans e7
      exact tr_iret hZ dX12_without_18 rfl (by decide) (by decide) ⟨v30, rfl, rfl, rfl, rfl, rfl, rfl, hS31, trivial⟩
  · skip
    refine tr_aload_n dX12_without_0 rfl ?_
    refine q_iconst dX12_without_1 (by decide) ?_
    intro v33 h34
    refine q_putI dX12_without_2 fl12_70 (kR15 hS0.1 ta0) (Or.inl rfl) hS0 ta0 (iokF rfl) rfl (by decide +kernel) ?_
    intro I35 hS36 e37 f38
    refine tr_aload_n dX12_without_5 rfl ?_
    refine tr_iload_n dX12_without_6 rfl ?_
    obtain ⟨v39, c40⟩ : ∃ v, I0 a1 2 = v := ⟨_, rfl⟩
    have b41 := iv14_2 hW0 ta1 c40
    obtain ⟨a42, d43, ta42⟩ := rf15_16 hW0 ta0
    obtain ⟨v44, c45⟩ : ∃ v, I0 a42 1 = v := ⟨_, rfl⟩
    have b46 := iv77_1 hW0 ta42 (by decide) c45
    refine q_callVi hE (M' := mX12_isEvent) (as := [_]) dX12_without_7 lk12_467 inX12_isEvent seX12_isEvent myX12_isEvent (by decide) ⟨by decide, by decide⟩ rfl (kR15 hS36.1 ta0) (Nat.le_of_ble_eq_true rfl) rfl rfl (by decide) (by decide) (k_X12_isEvent hS36.1 ta0) ?_
    rintro v51 cn' K' N' I47 R48 L49 ⟨rfl, rfl, rfl, rfl, rfl, rfl, h52, p53, p54, -⟩
    have p55 := p53 _ d2 _ d43
    clear p53
    rw [((hS36.cell ta1 (by decide +kernel)).trans c40)] at p55
    rw [((hS36.cell ta42 (by decide +kernel)).trans c45)] at p55
    refine q_if_ne 19 dX12_without_10 (by decide) (fun h56 => ?_) (fun h56 => ?_)
    · skip
      refine tr_aload_n dX12_without_19 rfl ?_
      refine q_callVi hE (M' := mX12_tonight) (as := []) dX12_without_20 lk12_455 inX12_tonight seX12_tonight myX12_tonight (by decide) ⟨by decide, by decide⟩ rfl (kR15 hS36.1 ta0) (Nat.le_of_ble_eq_true rfl) rfl rfl (by decide) (by decide) (k_X12_tonight hS36.1 ta0 ⟨_, d2⟩) ?_
      rintro v61 cn' K' N' I57 R58 L59 ⟨rfl, rfl, rfl, rfl, rfl, g60, -⟩
      have hS62 := hS36.tr g60 (by decide +kernel) (by decide +kernel)
      have c63 : I57 a0 0 = v33 := (g60.cell ta0 (by decide +kernel)).trans e37
      refine tr_istore_n dX12_without_23 (by decide) (by decide) ?_
      refine tr_aload_n dX12_without_24 rfl ?_
      refine tr_iload_n dX12_without_25 rfl ?_
      refine q_callVv hE (M' := mX12_laysLight) (as := [_]) dX12_without_26 lk12_434 inX12_laysLight seX12_laysLight myX12_laysLight (by decide) ⟨by decide, by decide⟩ rfl (kR15 hS62.1 ta0) (Nat.le_of_ble_eq_true rfl) rfl rfl (by decide) (by decide) (k_X12_laysLight hS62.1 ta0 ⟨_, d2⟩) ?_
      rintro cn' K' N' I64 R65 L66 ⟨rfl, rfl, rfl, rfl, rfl, g67, -⟩
      have hS69 := hS62.tr g67 (by decide +kernel) (by decide +kernel)
      have c70 : I64 a0 0 = v33 := (g67.cell ta0 (by decide +kernel)).trans c63
      refine tr_aload_n dX12_without_29 rfl ?_
      refine tr_aload_n dX12_without_30 rfl ?_
      refine tr_aload_n dX12_without_31 rfl ?_
      refine q_callVi hE (M' := mX12_everybody) (as := []) dX12_without_32 lk12_437 inX12_everybody seX12_everybody myX12_everybody (by decide) ⟨by decide, by decide⟩ rfl (kR15 hS69.1 ta0) (Nat.le_of_ble_eq_true rfl) rfl rfl (by decide) (by decide) (k_X12_everybody hS69.1 ta0 ⟨_, d2⟩) ?_
      rintro v75 cn' K' N' I71 R72 L73 ⟨rfl, rfl, rfl, rfl, rfl, rfl, h76, -⟩
      refine tr_aload_n dX12_without_35 rfl ?_
      refine tr_getR dX12_without_36 fl12_17 (kR15 hS69.1 ta0) d43 ?_
      refine q_iconst dX12_without_39 (by decide) ?_
      intro v77 h78
      obtain ⟨v79, c80⟩ : ∃ v, I0 a42 0 = v := ⟨_, rfl⟩
      refine q_iald dX12_without_40 (kR77 hS69.1 ta42) (ti_in (nR77 hS69.1 ta42) (by exact om_d99fa9e4 h78) (by exact om_152819bd h78)) ?_
      intro v81 c82
      rw [show v77.toNatClampNeg = 0 from ti_cl (by exact om_71345643 h78)] at c82
      obtain rfl : v79 = v81 := (((hS69.cell ta42 (by decide +kernel)).trans c80)).symm.trans c82
      refine q_callVi hE (M' := mX12_goes) (as := [_, _]) dX12_without_41 lk12_440 inX12_goes seX12_goes myX12_goes (by decide) ⟨by decide, by decide⟩ rfl (kR15 hS69.1 ta0) (Nat.le_of_ble_eq_true rfl) rfl rfl (by decide) (by decide) (k_X12_goes hS69.1 ta0 ⟨_, d2⟩) ?_
      rintro v87 cn' K' N' I83 R84 L85 ⟨rfl, rfl, rfl, rfl, rfl, g86, -⟩
      have hS88 := hS69.tr g86 (by decide +kernel) (by decide +kernel)
      have c89 : I83 a0 0 = v33 := (g86.cell ta0 (by decide +kernel)).trans c70
      refine tr_iload_n dX12_without_44 rfl ?_
      refine q_isub dX12_without_45 ?_
      intro v90
      refine q_callVi hE (M' := mX12_good) (as := [_]) dX12_without_46 lk12_81 inX12_good seX12_good myX12_good (by decide) ⟨by decide, by decide⟩ rfl (kR15 hS88.1 ta0) (Nat.le_of_ble_eq_true rfl) rfl rfl (by decide) (by decide) (k_X12_good hS88.1 ta0) ?_
      rintro v95 cn' K' N' I91 R92 L93 ⟨rfl, rfl, rfl, rfl, rfl, g94, -⟩
      have hS96 := hS88.tr g94 (by decide +kernel) (by decide +kernel)
      have c97 : I91 a0 0 = v33 := (g94.cell ta0 (by decide +kernel)).trans c89
      exact tr_iret hZ dX12_without_49 rfl (by decide) (by decide) ⟨v95, rfl, rfl, rfl, rfl, rfl, rfl, hS96, trivial⟩
    · skip
      refine tr_aload_n dX12_without_13 rfl ?_
      refine q_iconst dX12_without_14 (by decide) ?_
      intro v98 h99
      refine q_callVi hE (M' := mX12_lost) (as := [_]) dX12_without_15 lk12_458 inX12_lost seX12_lost myX12_lost (by decide) ⟨by decide, by decide⟩ rfl (kR15 hS36.1 ta0) (Nat.le_of_ble_eq_true rfl) rfl rfl (by decide) (by decide) (k_X12_lost hS36.1 ta0) ?_
      rintro v104 cn' K' N' I100 R101 L102 ⟨rfl, rfl, rfl, rfl, rfl, g103, -⟩
      have hS105 := hS36.tr g103 (by decide +kernel) (by decide +kernel)
      have c106 : I100 a0 0 = v33 := (g103.cell ta0 (by decide +kernel)).trans e37
      exact tr_iret hZ dX12_without_18 rfl (by decide) (by decide) ⟨v104, rfl, rfl, rfl, rfl, rfl, rfl, hS105, trivial⟩
def wi_X12_wakeNow : List Nat := [994, 5247, 5311, 5375, 5439, 5503, 5567, 5631, 5695, 5759, 5823, 5887, 5951, 6015]
def wr_X12_wakeNow : List Nat := []
set_option maxHeartbeats 4000000 in
theorem k_X12_wakeNow {l : Launch} {T : Nat → Nat} {cn : Nat} {K N : Nat → Nat} {I0 : cz_I} {R0 : cz_R} {L0 : cz_L} {d : Int} (hW0 : Wf T cn K N I0 R0 d) {a0 : Nat} (ta0 : T a0 = 15) (nn3 : ∃ b, R0 a0 3 = some b) : ConE l mX12_wakeNow [.ref a0] cn K N I0 R0 L0 (ca_i (fun v cn' K' N' I' R' L' => cn = cn' ∧ K = K' ∧ N = N' ∧ R0 = R' ∧ L0 = L' ∧ St T cn K N d wi_X12_wakeNow wr_X12_wakeNow I0 R0 I' R0 ∧ True)) := by
  refine ConE.of (by decide +kernel) rfl (Nat.le_of_ble_eq_true rfl) rfl (fun X hX hZ hE => ?_)
  subst hX
  have hS0 : St T cn K N d wi_X12_wakeNow wr_X12_wakeNow I0 R0 I0 R0 := St.rf0 hW0
  obtain ⟨a1, d2⟩ := nn3
  have ta1 : T a1 = 14 := hW0.rsN ta0 rfl d2
  refine tr_aload_n dX12_wakeNow_0 rfl ?_
  refine q_iconst dX12_wakeNow_1 (by decide) ?_
  intro v3 h4
  refine q_callVv hE (M' := mX12_laysLight) (as := [_]) dX12_wakeNow_2 lk12_434 inX12_laysLight seX12_laysLight myX12_laysLight (by decide) ⟨by decide, by decide⟩ rfl (kR15 hS0.1 ta0) (Nat.le_of_ble_eq_true rfl) rfl rfl (by decide) (by decide) (k_X12_laysLight hS0.1 ta0 ⟨_, d2⟩) ?_
  rintro cn' K' N' I5 R6 L7 ⟨rfl, rfl, rfl, rfl, rfl, g8, -⟩
  have hS10 := hS0.tr g8 (by decide +kernel) (by decide +kernel)
  refine q_iconst dX12_wakeNow_5 (by decide) ?_
  intro v11 h12
  refine tr_istore_n dX12_wakeNow_6 (by decide) (by decide) ?_
  refine q_iconst dX12_wakeNow_7 (by decide) ?_
  intro v13 h14
  refine tr_istore_n dX12_wakeNow_8 (by decide) (by decide) ?_
  have lp23 : ∀ (fu : Nat) (ls : Nat → Option Value) (v15 : Int32) (v16 : Int32) (I20 : cz_I), ls 0 = some (.ref a0) → ls 1 = some (.int v15) → ls 2 = some (.int v16) → St T cn K N d wi_X12_wakeNow wr_X12_wakeNow I0 R0 I20 R0 → 0 ≤ v16.toInt → (-v16.toInt + 2147483647).toNat < fu → Tr X mX12_wakeNow 9 ls [] cn K N I20 R0 L0 0 0 := by
    intro fu
    induction fu with
    | zero => intros; rename_i hz; exact absurd hz (Nat.not_lt_zero _)
    | succ fu ih23 =>
      intro ls v15 v16 I20 hl17 hl18 hl19 hS21 g22 hm23
      refine tr_iload_n dX12_wakeNow_9 hl19 ?_
      refine q_iconst dX12_wakeNow_10 (by decide) ?_
      intro v25 h26
      refine tr_aload_n dX12_wakeNow_11 hl17 ?_
      refine tr_getR dX12_wakeNow_12 fl12_385 (kR15 hS21.1 ta0) d2 ?_
      obtain ⟨v27, c28⟩ : ∃ v, I0 a1 5 = v := ⟨_, rfl⟩
      have b29 := iv14_5 hW0 ta1 c28
      refine q_getI dX12_wakeNow_15 fl12_349 (kR14 hS21.1 ta1) ((hS21.cell ta1 (by decide +kernel)).trans c28) ?_
      refine q_ishlE dX12_wakeNow_18 (by exact om_ee8a1e2d h26) (by exact om_cafeadf3 b29) ?_
      intro v30 h31
      refine q_icmp_ge 80 dX12_wakeNow_19 (by decide) (fun h32 => ?_) (fun h32 => ?_)
      · skip
        refine tr_iload_n dX12_wakeNow_80 hl18 ?_
        exact tr_iret hZ dX12_wakeNow_81 rfl (by decide) (by decide) ⟨v15, rfl, rfl, rfl, rfl, rfl, rfl, hS21, trivial⟩
      · skip
        refine tr_aload_n dX12_wakeNow_22 hl17 ?_
        refine tr_aload_n dX12_wakeNow_23 hl17 ?_
        refine q_callVi hE (M' := mX12_everybody) (as := []) dX12_wakeNow_24 lk12_437 inX12_everybody seX12_everybody myX12_everybody (by decide) ⟨by decide, by decide⟩ rfl (kR15 hS21.1 ta0) (Nat.le_of_ble_eq_true rfl) rfl rfl (by decide) (by decide) (k_X12_everybody hS21.1 ta0 ⟨_, d2⟩) ?_
        rintro v37 cn' K' N' I33 R34 L35 ⟨rfl, rfl, rfl, rfl, rfl, rfl, h38, -⟩
        refine tr_iload_n dX12_wakeNow_27 hl19 ?_
        refine q_callVi hE (M' := mX12_goes) (as := [_, _]) dX12_wakeNow_28 lk12_440 inX12_goes seX12_goes myX12_goes (by decide) ⟨by decide, by decide⟩ rfl (kR15 hS21.1 ta0) (Nat.le_of_ble_eq_true rfl) rfl rfl (by decide) (by decide) (k_X12_goes hS21.1 ta0 ⟨_, d2⟩) ?_
        rintro v43 cn' K' N' I39 R40 L41 ⟨rfl, rfl, rfl, rfl, rfl, g42, -⟩
        have hS44 := hS21.tr g42 (by decide +kernel) (by decide +kernel)
        refine tr_istore_n dX12_wakeNow_31 (by decide) (by decide) ?_
        refine tr_iload_n dX12_wakeNow_32 hl18 ?_
        refine q_iconst dX12_wakeNow_33 (by decide) ?_
        intro v45 h46
        refine q_icmp_eq 67 dX12_wakeNow_34 (by decide) (fun h47 => ?_) (fun h47 => ?_)
        · skip
          refine tr_iload_n dX12_wakeNow_67 hl19 ?_
          refine tr_istore_n dX12_wakeNow_68 (by decide) (by decide) ?_
          refine tr_aload_n dX12_wakeNow_69 hl17 ?_
          refine tr_iload_n dX12_wakeNow_70 rfl ?_
          refine q_putI dX12_wakeNow_71 fl12_470 (kR15 hS44.1 ta0) (Or.inl rfl) hS44 ta0 (iokF rfl) rfl (by decide +kernel) ?_
          intro I48 hS49 e50 f51
          refine q_iincE dX12_wakeNow_74 hl19 (by decide) (by decide) (by intro j1 j2; exact om_d8781e1f g22 h31.2 h31.1 h32 j2) ?_
          intro v52 h53
          refine tr_goto 9 dX12_wakeNow_77 (by decide) ?_
          exact ih23 _ v16 v52 I48 hl17 rfl rfl hS49 (by exact om_68881c41 g22 h53) (by exact om_78891f55 g22 hm23 h31.2 h31.1 h32 h53)
        · skip
          refine tr_iload_n dX12_wakeNow_37 rfl ?_
          refine tr_aload_n dX12_wakeNow_38 hl17 ?_
          obtain ⟨v54, c55⟩ : ∃ v, I39 a0 34 = v := ⟨_, rfl⟩
          refine q_getI dX12_wakeNow_39 fl12_470 (kR15 hS44.1 ta0) c55 ?_
          refine q_icmp_lt 74 dX12_wakeNow_42 (by decide) (fun h56 => ?_) (fun h56 => ?_)
          · skip
            refine q_iincE dX12_wakeNow_74 hl19 (by decide) (by decide) (by intro j1 j2; exact om_d8781e1f g22 h31.2 h31.1 h32 j2) ?_
            intro v57 h58
            refine tr_goto 9 dX12_wakeNow_77 (by decide) ?_
            exact ih23 _ v15 v57 I39 hl17 hl18 rfl hS44 (by exact om_68881c41 g22 h58) (by exact om_5e6426ec g22 hm23 h31.2 h31.1 h32 h47 h58)
          · skip
            refine tr_iload_n dX12_wakeNow_45 rfl ?_
            refine tr_aload_n dX12_wakeNow_46 hl17 ?_
            refine q_getI dX12_wakeNow_47 fl12_470 (kR15 hS44.1 ta0) c55 ?_
            refine q_icmp_ne 67 dX12_wakeNow_50 (by decide) (fun h59 => ?_) (fun h59 => ?_)
            · skip
              refine tr_iload_n dX12_wakeNow_67 hl19 ?_
              refine tr_istore_n dX12_wakeNow_68 (by decide) (by decide) ?_
              refine tr_aload_n dX12_wakeNow_69 hl17 ?_
              refine tr_iload_n dX12_wakeNow_70 rfl ?_
              refine q_putI dX12_wakeNow_71 fl12_470 (kR15 hS44.1 ta0) (Or.inl rfl) hS44 ta0 (iokF rfl) rfl (by decide +kernel) ?_
              intro I60 hS61 e62 f63
              refine q_iincE dX12_wakeNow_74 hl19 (by decide) (by decide) (by intro j1 j2; exact om_d8781e1f g22 h31.2 h31.1 h32 j2) ?_
              intro v64 h65
              refine tr_goto 9 dX12_wakeNow_77 (by decide) ?_
              exact ih23 _ v16 v64 I60 hl17 rfl rfl hS61 (by exact om_68881c41 g22 h65) (by exact om_9b6d254f g22 hm23 h31.2 h31.1 h32 h47 h56 h59 h65)
            · skip
              refine tr_iload_n dX12_wakeNow_53 hl19 ?_
              refine q_callSi hE (M' := mX12_bits) (as := [_]) dX12_wakeNow_54 lk12_473 inX12_bits myX12_bits ⟨by decide, by decide⟩ rfl (Nat.le_of_ble_eq_true rfl) rfl rfl (by decide) (by decide) (k_X12_bits hS44.1 ) ?_
              rintro v70 cn' K' N' I66 R67 L68 ⟨rfl, rfl, rfl, rfl, rfl, rfl, -⟩
              refine tr_iload_n dX12_wakeNow_57 hl18 ?_
              refine q_callSi hE (M' := mX12_bits) (as := [_]) dX12_wakeNow_58 lk12_473 inX12_bits myX12_bits ⟨by decide, by decide⟩ rfl (Nat.le_of_ble_eq_true rfl) rfl rfl (by decide) (by decide) (k_X12_bits hS44.1 ) ?_
              rintro v75 cn' K' N' I71 R72 L73 ⟨rfl, rfl, rfl, rfl, rfl, rfl, -⟩
              refine q_icmp_lt 67 dX12_wakeNow_61 (by decide) (fun h76 => ?_) (fun h76 => ?_)
              · skip
                refine tr_iload_n dX12_wakeNow_67 hl19 ?_
                refine tr_istore_n dX12_wakeNow_68 (by decide) (by decide) ?_
                refine tr_aload_n dX12_wakeNow_69 hl17 ?_
                refine tr_iload_n dX12_wakeNow_70 rfl ?_
                refine q_putI dX12_wakeNow_71 fl12_470 (kR15 hS44.1 ta0) (Or.inl rfl) hS44 ta0 (iokF rfl) rfl (by decide +kernel) ?_
                intro I77 hS78 e79 f80
                refine q_iincE dX12_wakeNow_74 hl19 (by decide) (by decide) (by intro j1 j2; exact om_d8781e1f g22 h31.2 h31.1 h32 j2) ?_
                intro v81 h82
                refine tr_goto 9 dX12_wakeNow_77 (by decide) ?_
                exact ih23 _ v16 v81 I77 hl17 rfl rfl hS78 (by exact om_68881c41 g22 h82) (by exact om_5e6426ec g22 hm23 h31.2 h31.1 h32 h47 h82)
              · skip
                refine tr_goto 74 dX12_wakeNow_64 (by decide) ?_
                refine q_iincE dX12_wakeNow_74 hl19 (by decide) (by decide) (by intro j1 j2; exact om_d8781e1f g22 h31.2 h31.1 h32 j2) ?_
                intro v83 h84
                refine tr_goto 9 dX12_wakeNow_77 (by decide) ?_
                exact ih23 _ v15 v83 I39 hl17 hl18 rfl hS44 (by exact om_68881c41 g22 h84) (by exact om_5e6426ec g22 hm23 h31.2 h31.1 h32 h47 h84)
  exact lp23 _ _ v11 v13 I5 rfl rfl rfl hS10 (by exact om_d99fa9e4 h14) (Nat.lt_succ_self _)
def wi_X12_wake : List Nat := [960, 961, 962, 994, 5247, 5311, 5375, 5439, 5503, 5567, 5631, 5695, 5759, 5823, 5887, 5951, 6015]
def wr_X12_wake : List Nat := []
set_option maxHeartbeats 4000000 in
theorem k_X12_wake {l : Launch} {T : Nat → Nat} {cn : Nat} {K N : Nat → Nat} {I0 : cz_I} {R0 : cz_R} {L0 : cz_L} {d : Int} (hW0 : Wf T cn K N I0 R0 d) {a0 : Nat} (ta0 : T a0 = 15) : ConE l mX12_wake [.ref a0] cn K N I0 R0 L0 (ca_i (fun v cn' K' N' I' R' L' => cn = cn' ∧ K = K' ∧ N = N' ∧ R0 = R' ∧ L0 = L' ∧ St T cn K N d wi_X12_wake wr_X12_wake I0 R0 I' R0 ∧ True)) := by
  refine ConE.of (by decide +kernel) rfl (Nat.le_of_ble_eq_true rfl) rfl (fun X hX hZ hE => ?_)
  subst hX
  have hS0 : St T cn K N d wi_X12_wake wr_X12_wake I0 R0 I0 R0 := St.rf0 hW0
  rcases rf15_3 hW0 ta0 with d2 | ⟨a1, d2, ta1⟩
  · skip
    refine tr_aload_n dX12_wake_0 rfl ?_
    refine q_iconst dX12_wake_1 (by decide) ?_
    intro v3 h4
    refine q_putI dX12_wake_2 fl12_70 (kR15 hS0.1 ta0) (Or.inl rfl) hS0 ta0 (iokF rfl) rfl (by decide +kernel) ?_
    intro I5 hS6 e7 f8
    refine tr_aload_n dX12_wake_5 rfl ?_
    refine tr_getN dX12_wake_6 fl12_385 (kR15 hS6.1 ta0) d2 ?_
    refine tr_ifnonnullN dX12_wake_9 ?_
    refine tr_aload_n dX12_wake_12 rfl ?_
    refine q_iconst dX12_wake_13 (by decide) ?_
    intro v9 h10
    refine q_callVi hE (M' := mX12_refused) (as := [_]) dX12_wake_14 lk12_76 inX12_refused seX12_refused myX12_refused (by decide) ⟨by decide, by decide⟩ rfl (kR15 hS6.1 ta0) (Nat.le_of_ble_eq_true rfl) rfl rfl (by decide) (by decide) (k_X12_refused hS6.1 ta0) ?_
    rintro v15 cn' K' N' I11 R12 L13 ⟨rfl, rfl, rfl, rfl, rfl, g14, -⟩
    have hS16 := hS6.tr g14 (by decide +kernel) (by decide +kernel)
    have c17 : I11 a0 0 = v3 := (g14.cell ta0 (by decide +kernel)).trans e7
    refine tr_goto 28 dX12_wake_17 (by decide) ?_
    exact tr_iret hZ dX12_wake_28 rfl (by decide) (by decide) ⟨v15, rfl, rfl, rfl, rfl, rfl, rfl, hS16, trivial⟩
  · skip
    refine tr_aload_n dX12_wake_0 rfl ?_
    refine q_iconst dX12_wake_1 (by decide) ?_
    intro v18 h19
    refine q_putI dX12_wake_2 fl12_70 (kR15 hS0.1 ta0) (Or.inl rfl) hS0 ta0 (iokF rfl) rfl (by decide +kernel) ?_
    intro I20 hS21 e22 f23
    refine tr_aload_n dX12_wake_5 rfl ?_
    refine tr_getR dX12_wake_6 fl12_385 (kR15 hS21.1 ta0) d2 ?_
    refine tr_ifnonnull 20 dX12_wake_9 (by decide) ?_
    refine tr_aload_n dX12_wake_20 rfl ?_
    refine tr_aload_n dX12_wake_21 rfl ?_
    refine q_callVi hE (M' := mX12_wakeNow) (as := []) dX12_wake_22 lk12_476 inX12_wakeNow seX12_wakeNow myX12_wakeNow (by decide) ⟨by decide, by decide⟩ rfl (kR15 hS21.1 ta0) (Nat.le_of_ble_eq_true rfl) rfl rfl (by decide) (by decide) (k_X12_wakeNow hS21.1 ta0 ⟨_, d2⟩) ?_
    rintro v28 cn' K' N' I24 R25 L26 ⟨rfl, rfl, rfl, rfl, rfl, g27, -⟩
    have hS29 := hS21.tr g27 (by decide +kernel) (by decide +kernel)
    have c30 : I24 a0 0 = v18 := (g27.cell ta0 (by decide +kernel)).trans e22
    refine q_callVi hE (M' := mX12_good) (as := [_]) dX12_wake_25 lk12_81 inX12_good seX12_good myX12_good (by decide) ⟨by decide, by decide⟩ rfl (kR15 hS29.1 ta0) (Nat.le_of_ble_eq_true rfl) rfl rfl (by decide) (by decide) (k_X12_good hS29.1 ta0) ?_
    rintro v35 cn' K' N' I31 R32 L33 ⟨rfl, rfl, rfl, rfl, rfl, g34, -⟩
    have hS36 := hS29.tr g34 (by decide +kernel) (by decide +kernel)
    have c37 : I31 a0 0 = v18 := (g34.cell ta0 (by decide +kernel)).trans c30
    exact tr_iret hZ dX12_wake_28 rfl (by decide) (by decide) ⟨v35, rfl, rfl, rfl, rfl, rfl, rfl, hS36, trivial⟩
def wi_X12_wakeTotal : List Nat := [960, 961, 962, 994, 5247, 5311, 5375, 5439, 5503, 5567, 5631, 5695, 5759, 5823, 5887, 5951, 6015]
def wr_X12_wakeTotal : List Nat := []
set_option maxHeartbeats 4000000 in
theorem k_X12_wakeTotal {l : Launch} {T : Nat → Nat} {cn : Nat} {K N : Nat → Nat} {I0 : cz_I} {R0 : cz_R} {L0 : cz_L} {d : Int} (hW0 : Wf T cn K N I0 R0 d) {a0 : Nat} (ta0 : T a0 = 15) : ConE l mX12_wakeTotal [.ref a0] cn K N I0 R0 L0 (ca_i (fun v cn' K' N' I' R' L' => cn = cn' ∧ K = K' ∧ N = N' ∧ R0 = R' ∧ L0 = L' ∧ St T cn K N d wi_X12_wakeTotal wr_X12_wakeTotal I0 R0 I' R0 ∧ True)) := by
  refine ConE.of (by decide +kernel) rfl (Nat.le_of_ble_eq_true rfl) rfl (fun X hX hZ hE => ?_)
  subst hX
  have hS0 : St T cn K N d wi_X12_wakeTotal wr_X12_wakeTotal I0 R0 I0 R0 := St.rf0 hW0
  rcases rf15_3 hW0 ta0 with d2 | ⟨a1, d2, ta1⟩
  · skip
    refine tr_aload_n dX12_wakeTotal_0 rfl ?_
    refine q_iconst dX12_wakeTotal_1 (by decide) ?_
    intro v3 h4
    refine q_putI dX12_wakeTotal_2 fl12_70 (kR15 hS0.1 ta0) (Or.inl rfl) hS0 ta0 (iokF rfl) rfl (by decide +kernel) ?_
    intro I5 hS6 e7 f8
    refine tr_aload_n dX12_wakeTotal_5 rfl ?_
    refine tr_getN dX12_wakeTotal_6 fl12_385 (kR15 hS6.1 ta0) d2 ?_
    refine tr_ifnonnullN dX12_wakeTotal_9 ?_
    refine tr_aload_n dX12_wakeTotal_12 rfl ?_
    refine q_iconst dX12_wakeTotal_13 (by decide) ?_
    intro v9 h10
    refine q_callVi hE (M' := mX12_lost) (as := [_]) dX12_wakeTotal_14 lk12_458 inX12_lost seX12_lost myX12_lost (by decide) ⟨by decide, by decide⟩ rfl (kR15 hS6.1 ta0) (Nat.le_of_ble_eq_true rfl) rfl rfl (by decide) (by decide) (k_X12_lost hS6.1 ta0) ?_
    rintro v15 cn' K' N' I11 R12 L13 ⟨rfl, rfl, rfl, rfl, rfl, g14, -⟩
    have hS16 := hS6.tr g14 (by decide +kernel) (by decide +kernel)
    have c17 : I11 a0 0 = v3 := (g14.cell ta0 (by decide +kernel)).trans e7
    exact tr_iret hZ dX12_wakeTotal_17 rfl (by decide) (by decide) ⟨v15, rfl, rfl, rfl, rfl, rfl, rfl, hS16, trivial⟩
  · skip
    refine tr_aload_n dX12_wakeTotal_0 rfl ?_
    refine q_iconst dX12_wakeTotal_1 (by decide) ?_
    intro v18 h19
    refine q_putI dX12_wakeTotal_2 fl12_70 (kR15 hS0.1 ta0) (Or.inl rfl) hS0 ta0 (iokF rfl) rfl (by decide +kernel) ?_
    intro I20 hS21 e22 f23
    refine tr_aload_n dX12_wakeTotal_5 rfl ?_
    refine tr_getR dX12_wakeTotal_6 fl12_385 (kR15 hS21.1 ta0) d2 ?_
    refine tr_ifnonnull 18 dX12_wakeTotal_9 (by decide) ?_
    refine tr_aload_n dX12_wakeTotal_18 rfl ?_
    refine q_callVi hE (M' := mX12_wakeNow) (as := []) dX12_wakeTotal_19 lk12_476 inX12_wakeNow seX12_wakeNow myX12_wakeNow (by decide) ⟨by decide, by decide⟩ rfl (kR15 hS21.1 ta0) (Nat.le_of_ble_eq_true rfl) rfl rfl (by decide) (by decide) (k_X12_wakeNow hS21.1 ta0 ⟨_, d2⟩) ?_
    rintro v28 cn' K' N' I24 R25 L26 ⟨rfl, rfl, rfl, rfl, rfl, g27, -⟩
    have hS29 := hS21.tr g27 (by decide +kernel) (by decide +kernel)
    have c30 : I24 a0 0 = v18 := (g27.cell ta0 (by decide +kernel)).trans e22
    refine tr_pop dX12_wakeTotal_22 rfl ?_
    refine tr_aload_n dX12_wakeTotal_23 rfl ?_
    refine tr_aload_n dX12_wakeTotal_24 rfl ?_
    obtain ⟨v31, c32⟩ : ∃ v, I24 a0 34 = v := ⟨_, rfl⟩
    refine q_getI dX12_wakeTotal_25 fl12_470 (kR15 hS29.1 ta0) c32 ?_
    refine q_callVi hE (M' := mX12_good) (as := [_]) dX12_wakeTotal_28 lk12_81 inX12_good seX12_good myX12_good (by decide) ⟨by decide, by decide⟩ rfl (kR15 hS29.1 ta0) (Nat.le_of_ble_eq_true rfl) rfl rfl (by decide) (by decide) (k_X12_good hS29.1 ta0) ?_
    rintro v37 cn' K' N' I33 R34 L35 ⟨rfl, rfl, rfl, rfl, rfl, g36, -⟩
    have hS38 := hS29.tr g36 (by decide +kernel) (by decide +kernel)
    have c39 : I33 a0 0 = v18 := (g36.cell ta0 (by decide +kernel)).trans c30
    have c40 : I33 a0 34 = v31 := (g36.cell ta0 (by decide +kernel)).trans c32
    exact tr_iret hZ dX12_wakeTotal_31 rfl (by decide) (by decide) ⟨v37, rfl, rfl, rfl, rfl, rfl, rfl, hS38, trivial⟩
def wi_X12_missesNone : List Nat := [5631, 5695, 5759, 5823, 5887, 5951, 6015]
def wr_X12_missesNone : List Nat := []
set_option maxHeartbeats 4000000 in
theorem k_X12_missesNone {l : Launch} {T : Nat → Nat} {cn : Nat} {K N : Nat → Nat} {I0 : cz_I} {R0 : cz_R} {L0 : cz_L} {d : Int} (hW0 : Wf T cn K N I0 R0 d) {a0 : Nat} (ta0 : T a0 = 15) {x1 : Int32} (nn3 : ∃ b, R0 a0 3 = some b) : ConE l mX12_missesNone [.ref a0, .int x1] cn K N I0 R0 L0 (ca_i (fun v cn' K' N' I' R' L' => cn = cn' ∧ K = K' ∧ N = N' ∧ R0 = R' ∧ L0 = L' ∧ St T cn K N d wi_X12_missesNone wr_X12_missesNone I0 R0 I' R0 ∧ (0 ≤ v.toInt ∧ v.toInt ≤ 1) ∧ True)) := by
  refine ConE.of (by decide +kernel) rfl (Nat.le_of_ble_eq_true rfl) rfl (fun X hX hZ hE => ?_)
  subst hX
  have hS0 : St T cn K N d wi_X12_missesNone wr_X12_missesNone I0 R0 I0 R0 := St.rf0 hW0
  obtain ⟨a1, d2⟩ := nn3
  have ta1 : T a1 = 14 := hW0.rsN ta0 rfl d2
  refine tr_aload_n dX12_missesNone_0 rfl ?_
  refine tr_iload_n dX12_missesNone_1 rfl ?_
  refine tr_aload_n dX12_missesNone_2 rfl ?_
  obtain ⟨a3, d4, ta3⟩ := rf15_16 hW0 ta0
  refine tr_getR dX12_missesNone_3 fl12_17 (kR15 hS0.1 ta0) d4 ?_
  refine q_iconst dX12_missesNone_6 (by decide) ?_
  intro v5 h6
  obtain ⟨v7, c8⟩ : ∃ v, I0 a3 0 = v := ⟨_, rfl⟩
  refine q_iald dX12_missesNone_7 (kR77 hS0.1 ta3) (ti_in (nR77 hS0.1 ta3) (by exact om_d99fa9e4 h6) (by exact om_152819bd h6)) ?_
  intro v9 c10
  rw [show v5.toNatClampNeg = 0 from ti_cl (by exact om_71345643 h6)] at c10
  obtain rfl : v7 = v9 := (c8).symm.trans c10
  refine q_callVi hE (M' := mX12_goes) (as := [_, _]) dX12_missesNone_8 lk12_440 inX12_goes seX12_goes myX12_goes (by decide) ⟨by decide, by decide⟩ rfl (kR15 hS0.1 ta0) (Nat.le_of_ble_eq_true rfl) rfl rfl (by decide) (by decide) (k_X12_goes hS0.1 ta0 ⟨_, d2⟩) ?_
  rintro v15 cn' K' N' I11 R12 L13 ⟨rfl, rfl, rfl, rfl, rfl, g14, -⟩
  have hS16 := hS0.tr g14 (by decide +kernel) (by decide +kernel)
  refine tr_pop dX12_missesNone_11 rfl ?_
  refine q_iconst dX12_missesNone_12 (by decide) ?_
  intro v17 h18
  refine tr_istore_n dX12_missesNone_13 (by decide) (by decide) ?_
  have lp26 : ∀ (fu : Nat) (ls : Nat → Option Value) (v19 : Int32) (I23 : cz_I), ls 0 = some (.ref a0) → ls 1 = some (.int x1) → ls 2 = some (.int v19) → St T cn K N d wi_X12_missesNone wr_X12_missesNone I0 R0 I23 R0 → 0 ≤ v19.toInt → (-v19.toInt + 2147483647).toNat < fu → Tr X mX12_missesNone 14 ls [] cn K N I23 R0 L0 0 0 := by
    intro fu
    induction fu with
    | zero => intros; rename_i hz; exact absurd hz (Nat.not_lt_zero _)
    | succ fu ih26 =>
      intro ls v19 I23 hl20 hl21 hl22 hS24 g25 hm26
      refine tr_iload_n dX12_missesNone_14 hl22 ?_
      refine tr_aload_n dX12_missesNone_15 hl20 ?_
      refine tr_getR dX12_missesNone_16 fl12_385 (kR15 hS24.1 ta0) d2 ?_
      obtain ⟨v28, c29⟩ : ∃ v, I0 a1 3 = v := ⟨_, rfl⟩
      have b30 := iv14_3 hW0 ta1 c29
      refine q_getI dX12_missesNone_19 fl12_224 (kR14 hS24.1 ta1) ((hS24.cell ta1 (by decide +kernel)).trans c29) ?_
      refine q_icmp_ge 42 dX12_missesNone_22 (by decide) (fun h31 => ?_) (fun h31 => ?_)
      · skip
        refine q_iconst dX12_missesNone_42 (by decide) ?_
        intro v32 h33
        exact tr_zret hZ dX12_missesNone_43 rfl (ti_b01 (by exact om_f9079521 h33) (by exact om_e6632817 h33)) (by decide) (by decide) ⟨v32, rfl, rfl, rfl, rfl, rfl, rfl, hS24, (by exact om_d753bc65 h33), trivial⟩
      · skip
        refine tr_aload_n dX12_missesNone_25 hl20 ?_
        obtain ⟨a34, d35, ta34⟩ := rf15_30 hW0 ta0
        refine tr_getR dX12_missesNone_26 fl12_55 (kR15 hS24.1 ta0) d35 ?_
        refine tr_iload_n dX12_missesNone_29 hl22 ?_
        refine q_iald dX12_missesNone_30 (kR90 hS24.1 ta34) (ti_in (nR90 hS24.1 ta34) (by exact om_2cfcd5a5 g25) (by exact om_5f13cc30 b30.2 b30.1 h31)) ?_
        intro v36 c37
        refine q_if_le 36 dX12_missesNone_31 (by decide) (fun h38 => ?_) (fun h38 => ?_)
        · skip
          refine q_iincE dX12_missesNone_36 hl22 (by decide) (by decide) (by intro j1 j2; exact om_4034714d g25 b30.2 b30.1 h31 j2) ?_
          intro v39 h40
          refine tr_goto 14 dX12_missesNone_39 (by decide) ?_
          exact ih26 _ v39 I23 hl20 hl21 rfl hS24 (by exact om_68881c41 g25 h40) (by exact om_fc025699 g25 hm26 b30.2 b30.1 h31 h40)
        · skip
          refine q_iconst dX12_missesNone_34 (by decide) ?_
          intro v41 h42
          exact tr_zret hZ dX12_missesNone_35 rfl (ti_b01 (by exact om_d99fa9e4 h42) (by exact om_d3de7ec9 h42)) (by decide) (by decide) ⟨v41, rfl, rfl, rfl, rfl, rfl, rfl, hS24, (by exact om_3b50ecb9 h42), trivial⟩
  exact lp26 _ _ v17 I11 rfl rfl rfl hS16 (by exact om_d99fa9e4 h18) (Nat.lt_succ_self _)
def wi_X12_fewestNow : List Nat := [5247, 5311, 5375, 5439, 5503, 5567, 5631, 5695, 5759, 5823, 5887, 5951, 6015]
def wr_X12_fewestNow : List Nat := []
set_option maxHeartbeats 4000000 in
theorem k_X12_fewestNow {l : Launch} {T : Nat → Nat} {cn : Nat} {K N : Nat → Nat} {I0 : cz_I} {R0 : cz_R} {L0 : cz_L} {d : Int} (hW0 : Wf T cn K N I0 R0 d) {a0 : Nat} (ta0 : T a0 = 15) (nn3 : ∃ b, R0 a0 3 = some b) : ConE l mX12_fewestNow [.ref a0] cn K N I0 R0 L0 (ca_i (fun v cn' K' N' I' R' L' => cn = cn' ∧ K = K' ∧ N = N' ∧ R0 = R' ∧ L0 = L' ∧ St T cn K N d wi_X12_fewestNow wr_X12_fewestNow I0 R0 I' R0 ∧ True)) := by
  refine ConE.of (by decide +kernel) rfl (Nat.le_of_ble_eq_true rfl) rfl (fun X hX hZ hE => ?_)
  subst hX
  have hS0 : St T cn K N d wi_X12_fewestNow wr_X12_fewestNow I0 R0 I0 R0 := St.rf0 hW0
  obtain ⟨a1, d2⟩ := nn3
  have ta1 : T a1 = 14 := hW0.rsN ta0 rfl d2
  refine tr_aload_n dX12_fewestNow_0 rfl ?_
  refine q_iconst dX12_fewestNow_1 (by decide) ?_
  intro v3 h4
  refine q_callVv hE (M' := mX12_laysLight) (as := [_]) dX12_fewestNow_2 lk12_434 inX12_laysLight seX12_laysLight myX12_laysLight (by decide) ⟨by decide, by decide⟩ rfl (kR15 hS0.1 ta0) (Nat.le_of_ble_eq_true rfl) rfl rfl (by decide) (by decide) (k_X12_laysLight hS0.1 ta0 ⟨_, d2⟩) ?_
  rintro cn' K' N' I5 R6 L7 ⟨rfl, rfl, rfl, rfl, rfl, g8, -⟩
  have hS10 := hS0.tr g8 (by decide +kernel) (by decide +kernel)
  refine q_bipush dX12_fewestNow_5 (by decide +kernel) ?_
  intro v11 h12
  refine tr_istore_n dX12_fewestNow_7 (by decide) (by decide) ?_
  refine q_iconst dX12_fewestNow_8 (by decide) ?_
  intro v13 h14
  refine tr_istore_n dX12_fewestNow_9 (by decide) (by decide) ?_
  have lp23 : ∀ (fu : Nat) (ls : Nat → Option Value) (v15 : Int32) (v16 : Int32) (I20 : cz_I), ls 0 = some (.ref a0) → ls 1 = some (.int v15) → ls 2 = some (.int v16) → St T cn K N d wi_X12_fewestNow wr_X12_fewestNow I0 R0 I20 R0 → 0 ≤ v16.toInt → (-v16.toInt + 2147483647).toNat < fu → Tr X mX12_fewestNow 10 ls [] cn K N I20 R0 L0 0 0 := by
    intro fu
    induction fu with
    | zero => intros; rename_i hz; exact absurd hz (Nat.not_lt_zero _)
    | succ fu ih23 =>
      intro ls v15 v16 I20 hl17 hl18 hl19 hS21 g22 hm23
      refine tr_iload_n dX12_fewestNow_10 hl19 ?_
      refine tr_aload_n dX12_fewestNow_11 hl17 ?_
      refine q_callVi hE (M' := mX12_everybody) (as := []) dX12_fewestNow_12 lk12_437 inX12_everybody seX12_everybody myX12_everybody (by decide) ⟨by decide, by decide⟩ rfl (kR15 hS21.1 ta0) (Nat.le_of_ble_eq_true rfl) rfl rfl (by decide) (by decide) (k_X12_everybody hS21.1 ta0 ⟨_, d2⟩) ?_
      rintro v29 cn' K' N' I25 R26 L27 ⟨rfl, rfl, rfl, rfl, rfl, rfl, h30, -⟩
      refine q_icmp_gt 51 dX12_fewestNow_15 (by decide) (fun h31 => ?_) (fun h31 => ?_)
      · skip
        refine tr_iload_n dX12_fewestNow_51 hl18 ?_
        exact tr_iret hZ dX12_fewestNow_52 rfl (by decide) (by decide) ⟨v15, rfl, rfl, rfl, rfl, rfl, rfl, hS21, trivial⟩
      · skip
        refine tr_iload_n dX12_fewestNow_18 hl18 ?_
        refine q_bipush dX12_fewestNow_19 (by decide +kernel) ?_
        intro v32 h33
        refine q_icmp_eq 35 dX12_fewestNow_21 (by decide) (fun h34 => ?_) (fun h34 => ?_)
        · skip
          refine tr_aload_n dX12_fewestNow_35 hl17 ?_
          refine tr_iload_n dX12_fewestNow_36 hl19 ?_
          refine q_callVi hE (M' := mX12_missesNone) (as := [_]) dX12_fewestNow_37 lk12_479 inX12_missesNone seX12_missesNone myX12_missesNone (by decide) ⟨by decide, by decide⟩ rfl (kR15 hS21.1 ta0) (Nat.le_of_ble_eq_true rfl) rfl rfl (by decide) (by decide) (k_X12_missesNone hS21.1 ta0 ⟨_, d2⟩) ?_
          rintro v39 cn' K' N' I35 R36 L37 ⟨rfl, rfl, rfl, rfl, rfl, g38, h40, -⟩
          have hS41 := hS21.tr g38 (by decide +kernel) (by decide +kernel)
          refine q_if_eq 45 dX12_fewestNow_40 (by decide) (fun h42 => ?_) (fun h42 => ?_)
          · skip
            refine q_iincE dX12_fewestNow_45 hl19 (by decide) (by decide) (by intro j1 j2; exact om_9c1e56ba g22 h30.2 h30.1 h31 j2) ?_
            intro v43 h44
            refine tr_goto 10 dX12_fewestNow_48 (by decide) ?_
            exact ih23 _ v15 v43 I35 hl17 hl18 rfl hS41 (by exact om_68881c41 g22 h44) (by exact om_3c5c590e g22 hm23 h30.2 h30.1 h31 h44)
          · skip
            refine tr_iload_n dX12_fewestNow_43 hl19 ?_
            refine tr_istore_n dX12_fewestNow_44 (by decide) (by decide) ?_
            refine q_iincE dX12_fewestNow_45 hl19 (by decide) (by decide) (by intro j1 j2; exact om_9c1e56ba g22 h30.2 h30.1 h31 j2) ?_
            intro v45 h46
            refine tr_goto 10 dX12_fewestNow_48 (by decide) ?_
            exact ih23 _ v16 v45 I35 hl17 rfl rfl hS41 (by exact om_68881c41 g22 h46) (by exact om_fb07eeb1 g22 hm23 h30.2 h30.1 h31 h40.2 h40.1 h42 h46)
        · skip
          refine tr_iload_n dX12_fewestNow_24 hl19 ?_
          refine q_callSi hE (M' := mX12_bits) (as := [_]) dX12_fewestNow_25 lk12_473 inX12_bits myX12_bits ⟨by decide, by decide⟩ rfl (Nat.le_of_ble_eq_true rfl) rfl rfl (by decide) (by decide) (k_X12_bits hS21.1 ) ?_
          rintro v51 cn' K' N' I47 R48 L49 ⟨rfl, rfl, rfl, rfl, rfl, rfl, -⟩
          refine tr_iload_n dX12_fewestNow_28 hl18 ?_
          refine q_callSi hE (M' := mX12_bits) (as := [_]) dX12_fewestNow_29 lk12_473 inX12_bits myX12_bits ⟨by decide, by decide⟩ rfl (Nat.le_of_ble_eq_true rfl) rfl rfl (by decide) (by decide) (k_X12_bits hS21.1 ) ?_
          rintro v56 cn' K' N' I52 R53 L54 ⟨rfl, rfl, rfl, rfl, rfl, rfl, -⟩
          refine q_icmp_ge 45 dX12_fewestNow_32 (by decide) (fun h57 => ?_) (fun h57 => ?_)
          · skip
            refine q_iincE dX12_fewestNow_45 hl19 (by decide) (by decide) (by intro j1 j2; exact om_9c1e56ba g22 h30.2 h30.1 h31 j2) ?_
            intro v58 h59
            refine tr_goto 10 dX12_fewestNow_48 (by decide) ?_
            exact ih23 _ v15 v58 I20 hl17 hl18 rfl hS21 (by exact om_68881c41 g22 h59) (by exact om_80aacbaa g22 hm23 h30.2 h30.1 h31 h34 h59)
          · skip
            refine tr_aload_n dX12_fewestNow_35 hl17 ?_
            refine tr_iload_n dX12_fewestNow_36 hl19 ?_
            refine q_callVi hE (M' := mX12_missesNone) (as := [_]) dX12_fewestNow_37 lk12_479 inX12_missesNone seX12_missesNone myX12_missesNone (by decide) ⟨by decide, by decide⟩ rfl (kR15 hS21.1 ta0) (Nat.le_of_ble_eq_true rfl) rfl rfl (by decide) (by decide) (k_X12_missesNone hS21.1 ta0 ⟨_, d2⟩) ?_
            rintro v64 cn' K' N' I60 R61 L62 ⟨rfl, rfl, rfl, rfl, rfl, g63, h65, -⟩
            have hS66 := hS21.tr g63 (by decide +kernel) (by decide +kernel)
            refine q_if_eq 45 dX12_fewestNow_40 (by decide) (fun h67 => ?_) (fun h67 => ?_)
            · skip
              refine q_iincE dX12_fewestNow_45 hl19 (by decide) (by decide) (by intro j1 j2; exact om_9c1e56ba g22 h30.2 h30.1 h31 j2) ?_
              intro v68 h69
              refine tr_goto 10 dX12_fewestNow_48 (by decide) ?_
              exact ih23 _ v15 v68 I60 hl17 hl18 rfl hS66 (by exact om_68881c41 g22 h69) (by exact om_80aacbaa g22 hm23 h30.2 h30.1 h31 h34 h69)
            · skip
              refine tr_iload_n dX12_fewestNow_43 hl19 ?_
              refine tr_istore_n dX12_fewestNow_44 (by decide) (by decide) ?_
              refine q_iincE dX12_fewestNow_45 hl19 (by decide) (by decide) (by intro j1 j2; exact om_9c1e56ba g22 h30.2 h30.1 h31 j2) ?_
              intro v70 h71
              refine tr_goto 10 dX12_fewestNow_48 (by decide) ?_
              exact ih23 _ v16 v70 I60 hl17 rfl rfl hS66 (by exact om_68881c41 g22 h71) (by exact om_55ed158b g22 hm23 h30.2 h30.1 h31 h34 h65.2 h65.1 h67 h71)
  exact lp23 _ _ v11 v13 I5 rfl rfl rfl hS10 (by exact om_d99fa9e4 h14) (Nat.lt_succ_self _)
def wi_X12_fewest : List Nat := [960, 961, 962, 5247, 5311, 5375, 5439, 5503, 5567, 5631, 5695, 5759, 5823, 5887, 5951, 6015]
def wr_X12_fewest : List Nat := []
set_option maxHeartbeats 4000000 in
theorem k_X12_fewest {l : Launch} {T : Nat → Nat} {cn : Nat} {K N : Nat → Nat} {I0 : cz_I} {R0 : cz_R} {L0 : cz_L} {d : Int} (hW0 : Wf T cn K N I0 R0 d) {a0 : Nat} (ta0 : T a0 = 15) : ConE l mX12_fewest [.ref a0] cn K N I0 R0 L0 (ca_i (fun v cn' K' N' I' R' L' => cn = cn' ∧ K = K' ∧ N = N' ∧ R0 = R' ∧ L0 = L' ∧ St T cn K N d wi_X12_fewest wr_X12_fewest I0 R0 I' R0 ∧ True)) := by
  refine ConE.of (by decide +kernel) rfl (Nat.le_of_ble_eq_true rfl) rfl (fun X hX hZ hE => ?_)
  subst hX
  have hS0 : St T cn K N d wi_X12_fewest wr_X12_fewest I0 R0 I0 R0 := St.rf0 hW0
  rcases rf15_3 hW0 ta0 with d2 | ⟨a1, d2, ta1⟩
  · skip
    refine tr_aload_n dX12_fewest_0 rfl ?_
    refine q_iconst dX12_fewest_1 (by decide) ?_
    intro v3 h4
    refine q_putI dX12_fewest_2 fl12_70 (kR15 hS0.1 ta0) (Or.inl rfl) hS0 ta0 (iokF rfl) rfl (by decide +kernel) ?_
    intro I5 hS6 e7 f8
    refine tr_aload_n dX12_fewest_5 rfl ?_
    refine tr_getN dX12_fewest_6 fl12_385 (kR15 hS6.1 ta0) d2 ?_
    refine tr_ifnonnullN dX12_fewest_9 ?_
    refine tr_aload_n dX12_fewest_12 rfl ?_
    refine q_iconst dX12_fewest_13 (by decide) ?_
    intro v9 h10
    refine q_callVi hE (M' := mX12_refused) (as := [_]) dX12_fewest_14 lk12_76 inX12_refused seX12_refused myX12_refused (by decide) ⟨by decide, by decide⟩ rfl (kR15 hS6.1 ta0) (Nat.le_of_ble_eq_true rfl) rfl rfl (by decide) (by decide) (k_X12_refused hS6.1 ta0) ?_
    rintro v15 cn' K' N' I11 R12 L13 ⟨rfl, rfl, rfl, rfl, rfl, g14, -⟩
    have hS16 := hS6.tr g14 (by decide +kernel) (by decide +kernel)
    have c17 : I11 a0 0 = v3 := (g14.cell ta0 (by decide +kernel)).trans e7
    exact tr_iret hZ dX12_fewest_17 rfl (by decide) (by decide) ⟨v15, rfl, rfl, rfl, rfl, rfl, rfl, hS16, trivial⟩
  · skip
    refine tr_aload_n dX12_fewest_0 rfl ?_
    refine q_iconst dX12_fewest_1 (by decide) ?_
    intro v18 h19
    refine q_putI dX12_fewest_2 fl12_70 (kR15 hS0.1 ta0) (Or.inl rfl) hS0 ta0 (iokF rfl) rfl (by decide +kernel) ?_
    intro I20 hS21 e22 f23
    refine tr_aload_n dX12_fewest_5 rfl ?_
    refine tr_getR dX12_fewest_6 fl12_385 (kR15 hS21.1 ta0) d2 ?_
    refine tr_ifnonnull 18 dX12_fewest_9 (by decide) ?_
    refine tr_aload_n dX12_fewest_18 rfl ?_
    refine q_callVi hE (M' := mX12_fewestNow) (as := []) dX12_fewest_19 lk12_482 inX12_fewestNow seX12_fewestNow myX12_fewestNow (by decide) ⟨by decide, by decide⟩ rfl (kR15 hS21.1 ta0) (Nat.le_of_ble_eq_true rfl) rfl rfl (by decide) (by decide) (k_X12_fewestNow hS21.1 ta0 ⟨_, d2⟩) ?_
    rintro v28 cn' K' N' I24 R25 L26 ⟨rfl, rfl, rfl, rfl, rfl, g27, -⟩
    have hS29 := hS21.tr g27 (by decide +kernel) (by decide +kernel)
    have c30 : I24 a0 0 = v18 := (g27.cell ta0 (by decide +kernel)).trans e22
    refine tr_istore_n dX12_fewest_22 (by decide) (by decide) ?_
    refine tr_aload_n dX12_fewest_23 rfl ?_
    refine tr_iload_n dX12_fewest_24 rfl ?_
    refine q_bipush dX12_fewest_25 (by decide +kernel) ?_
    intro v31 h32
    refine q_icmp_ne 35 dX12_fewest_27 (by decide) (fun h33 => ?_) (fun h33 => ?_)
    · skip
      refine tr_iload_n dX12_fewest_35 rfl ?_
      refine q_callSi hE (M' := mX12_bits) (as := [_]) dX12_fewest_36 lk12_473 inX12_bits myX12_bits ⟨by decide, by decide⟩ rfl (Nat.le_of_ble_eq_true rfl) rfl rfl (by decide) (by decide) (k_X12_bits hS29.1 ) ?_
      rintro v38 cn' K' N' I34 R35 L36 ⟨rfl, rfl, rfl, rfl, rfl, rfl, -⟩
      refine q_callVi hE (M' := mX12_good) (as := [_]) dX12_fewest_39 lk12_81 inX12_good seX12_good myX12_good (by decide) ⟨by decide, by decide⟩ rfl (kR15 hS29.1 ta0) (Nat.le_of_ble_eq_true rfl) rfl rfl (by decide) (by decide) (k_X12_good hS29.1 ta0) ?_
      rintro v43 cn' K' N' I39 R40 L41 ⟨rfl, rfl, rfl, rfl, rfl, g42, -⟩
      have hS44 := hS29.tr g42 (by decide +kernel) (by decide +kernel)
      have c45 : I39 a0 0 = v18 := (g42.cell ta0 (by decide +kernel)).trans c30
      exact tr_iret hZ dX12_fewest_42 rfl (by decide) (by decide) ⟨v43, rfl, rfl, rfl, rfl, rfl, rfl, hS44, trivial⟩
    · skip
      refine q_bipush dX12_fewest_30 (by decide +kernel) ?_
      intro v46 h47
      refine tr_goto 39 dX12_fewest_32 (by decide) ?_
      refine q_callVi hE (M' := mX12_good) (as := [_]) dX12_fewest_39 lk12_81 inX12_good seX12_good myX12_good (by decide) ⟨by decide, by decide⟩ rfl (kR15 hS29.1 ta0) (Nat.le_of_ble_eq_true rfl) rfl rfl (by decide) (by decide) (k_X12_good hS29.1 ta0) ?_
      rintro v52 cn' K' N' I48 R49 L50 ⟨rfl, rfl, rfl, rfl, rfl, g51, -⟩
      have hS53 := hS29.tr g51 (by decide +kernel) (by decide +kernel)
      have c54 : I48 a0 0 = v18 := (g51.cell ta0 (by decide +kernel)).trans c30
      exact tr_iret hZ dX12_fewest_42 rfl (by decide) (by decide) ⟨v52, rfl, rfl, rfl, rfl, rfl, rfl, hS53, trivial⟩
def wi_X12_fewestBy : List Nat := [960, 961, 962, 5247, 5311, 5375, 5439, 5503, 5567, 5631, 5695, 5759, 5823, 5887, 5951, 6015]
def wr_X12_fewestBy : List Nat := []
set_option maxHeartbeats 4000000 in
theorem k_X12_fewestBy {l : Launch} {T : Nat → Nat} {cn : Nat} {K N : Nat → Nat} {I0 : cz_I} {R0 : cz_R} {L0 : cz_L} {d : Int} (hW0 : Wf T cn K N I0 R0 d) {a0 : Nat} (ta0 : T a0 = 15) : ConE l mX12_fewestBy [.ref a0] cn K N I0 R0 L0 (ca_i (fun v cn' K' N' I' R' L' => cn = cn' ∧ K = K' ∧ N = N' ∧ R0 = R' ∧ L0 = L' ∧ St T cn K N d wi_X12_fewestBy wr_X12_fewestBy I0 R0 I' R0 ∧ True)) := by
  refine ConE.of (by decide +kernel) rfl (Nat.le_of_ble_eq_true rfl) rfl (fun X hX hZ hE => ?_)
  subst hX
  have hS0 : St T cn K N d wi_X12_fewestBy wr_X12_fewestBy I0 R0 I0 R0 := St.rf0 hW0
  rcases rf15_3 hW0 ta0 with d2 | ⟨a1, d2, ta1⟩
  · skip
    refine tr_aload_n dX12_fewestBy_0 rfl ?_
    refine q_iconst dX12_fewestBy_1 (by decide) ?_
    intro v3 h4
    refine q_putI dX12_fewestBy_2 fl12_70 (kR15 hS0.1 ta0) (Or.inl rfl) hS0 ta0 (iokF rfl) rfl (by decide +kernel) ?_
    intro I5 hS6 e7 f8
    refine tr_aload_n dX12_fewestBy_5 rfl ?_
    refine tr_getN dX12_fewestBy_6 fl12_385 (kR15 hS6.1 ta0) d2 ?_
    refine tr_ifnonnullN dX12_fewestBy_9 ?_
    refine tr_aload_n dX12_fewestBy_12 rfl ?_
    refine q_iconst dX12_fewestBy_13 (by decide) ?_
    intro v9 h10
    refine q_callVi hE (M' := mX12_refused) (as := [_]) dX12_fewestBy_14 lk12_76 inX12_refused seX12_refused myX12_refused (by decide) ⟨by decide, by decide⟩ rfl (kR15 hS6.1 ta0) (Nat.le_of_ble_eq_true rfl) rfl rfl (by decide) (by decide) (k_X12_refused hS6.1 ta0) ?_
    rintro v15 cn' K' N' I11 R12 L13 ⟨rfl, rfl, rfl, rfl, rfl, g14, -⟩
    have hS16 := hS6.tr g14 (by decide +kernel) (by decide +kernel)
    have c17 : I11 a0 0 = v3 := (g14.cell ta0 (by decide +kernel)).trans e7
    refine tr_goto 28 dX12_fewestBy_17 (by decide) ?_
    exact tr_iret hZ dX12_fewestBy_28 rfl (by decide) (by decide) ⟨v15, rfl, rfl, rfl, rfl, rfl, rfl, hS16, trivial⟩
  · skip
    refine tr_aload_n dX12_fewestBy_0 rfl ?_
    refine q_iconst dX12_fewestBy_1 (by decide) ?_
    intro v18 h19
    refine q_putI dX12_fewestBy_2 fl12_70 (kR15 hS0.1 ta0) (Or.inl rfl) hS0 ta0 (iokF rfl) rfl (by decide +kernel) ?_
    intro I20 hS21 e22 f23
    refine tr_aload_n dX12_fewestBy_5 rfl ?_
    refine tr_getR dX12_fewestBy_6 fl12_385 (kR15 hS21.1 ta0) d2 ?_
    refine tr_ifnonnull 20 dX12_fewestBy_9 (by decide) ?_
    refine tr_aload_n dX12_fewestBy_20 rfl ?_
    refine tr_aload_n dX12_fewestBy_21 rfl ?_
    refine q_callVi hE (M' := mX12_fewestNow) (as := []) dX12_fewestBy_22 lk12_482 inX12_fewestNow seX12_fewestNow myX12_fewestNow (by decide) ⟨by decide, by decide⟩ rfl (kR15 hS21.1 ta0) (Nat.le_of_ble_eq_true rfl) rfl rfl (by decide) (by decide) (k_X12_fewestNow hS21.1 ta0 ⟨_, d2⟩) ?_
    rintro v28 cn' K' N' I24 R25 L26 ⟨rfl, rfl, rfl, rfl, rfl, g27, -⟩
    have hS29 := hS21.tr g27 (by decide +kernel) (by decide +kernel)
    have c30 : I24 a0 0 = v18 := (g27.cell ta0 (by decide +kernel)).trans e22
    refine q_callVi hE (M' := mX12_good) (as := [_]) dX12_fewestBy_25 lk12_81 inX12_good seX12_good myX12_good (by decide) ⟨by decide, by decide⟩ rfl (kR15 hS29.1 ta0) (Nat.le_of_ble_eq_true rfl) rfl rfl (by decide) (by decide) (k_X12_good hS29.1 ta0) ?_
    rintro v35 cn' K' N' I31 R32 L33 ⟨rfl, rfl, rfl, rfl, rfl, g34, -⟩
    have hS36 := hS29.tr g34 (by decide +kernel) (by decide +kernel)
    have c37 : I31 a0 0 = v18 := (g34.cell ta0 (by decide +kernel)).trans c30
    exact tr_iret hZ dX12_fewestBy_28 rfl (by decide) (by decide) ⟨v35, rfl, rfl, rfl, rfl, rfl, rfl, hS36, trivial⟩
set_option maxHeartbeats 4000000 in
theorem k_X12_isSlice {l : Launch} {T : Nat → Nat} {cn : Nat} {K N : Nat → Nat} {I0 : cz_I} {R0 : cz_R} {L0 : cz_L} {d : Int} (hW0 : Wf T cn K N I0 R0 d) {a0 : Nat} (ta0 : T a0 = 15) {x1 : Int32} : ConE l mX12_isSlice [.ref a0, .int x1] cn K N I0 R0 L0 (ca_i (fun v cn' K' N' I' R' L' => cn = cn' ∧ K = K' ∧ N = N' ∧ I0 = I' ∧ R0 = R' ∧ L0 = L' ∧ (0 ≤ v.toInt ∧ v.toInt ≤ 1) ∧ ((v.toInt = 1 → (0 ≤ x1.toInt ∧ x1.toInt ≤ 3))) ∧ (R0 a0 3 = none → v.toInt = 0) ∧ True)) := by
  refine ConE.of (by decide +kernel) rfl (Nat.le_of_ble_eq_true rfl) rfl (fun X hX hZ hE => ?_)
  subst hX
  rcases rf15_3 hW0 ta0 with d2 | ⟨a1, d2, ta1⟩
  · skip
    refine tr_aload_n dX12_isSlice_0 rfl ?_
    refine tr_getN dX12_isSlice_1 fl12_385 (kR15 hW0 ta0) d2 ?_
    refine tr_ifnullN 26 dX12_isSlice_4 (by decide) ?_
    refine q_iconst dX12_isSlice_26 (by decide) ?_
    intro v3 h4
    exact tr_zret hZ dX12_isSlice_27 rfl (ti_b01 (by exact om_d99fa9e4 h4) (by exact om_d3de7ec9 h4)) (by decide) (by decide) ⟨v3, rfl, rfl, rfl, rfl, rfl, rfl, rfl, (by exact om_3b50ecb9 h4), (by exact om_baaf1ab0 h4), (fun _ => by exact om_29f55913 h4), trivial⟩
  · skip
    refine tr_aload_n dX12_isSlice_0 rfl ?_
    refine tr_getR dX12_isSlice_1 fl12_385 (kR15 hW0 ta0) d2 ?_
    refine tr_ifnull dX12_isSlice_4 ?_
    refine tr_iload_n dX12_isSlice_7 rfl ?_
    refine q_if_lt 26 dX12_isSlice_8 (by decide) (fun h5 => ?_) (fun h5 => ?_)
    · skip
      refine q_iconst dX12_isSlice_26 (by decide) ?_
      intro v6 h7
      exact tr_zret hZ dX12_isSlice_27 rfl (ti_b01 (by exact om_d99fa9e4 h7) (by exact om_d3de7ec9 h7)) (by decide) (by decide) ⟨v6, rfl, rfl, rfl, rfl, rfl, rfl, rfl, (by exact om_3b50ecb9 h7), (by exact om_baaf1ab0 h7), (fun z => by rw [d2] at z; cases z), trivial⟩
    · skip
      refine tr_iload_n dX12_isSlice_11 rfl ?_
      refine tr_aload_n dX12_isSlice_12 rfl ?_
      refine tr_getR dX12_isSlice_13 fl12_385 (kR15 hW0 ta0) d2 ?_
      obtain ⟨v8, c9⟩ : ∃ v, I0 a1 6 = v := ⟨_, rfl⟩
      have b10 := iv14_6 hW0 ta1 c9
      refine q_getI dX12_isSlice_16 fl12_370 (kR14 hW0 ta1) c9 ?_
      refine q_icmp_ge 26 dX12_isSlice_19 (by decide) (fun h11 => ?_) (fun h11 => ?_)
      · skip
        refine q_iconst dX12_isSlice_26 (by decide) ?_
        intro v12 h13
        exact tr_zret hZ dX12_isSlice_27 rfl (ti_b01 (by exact om_d99fa9e4 h13) (by exact om_d3de7ec9 h13)) (by decide) (by decide) ⟨v12, rfl, rfl, rfl, rfl, rfl, rfl, rfl, (by exact om_3b50ecb9 h13), (by exact om_baaf1ab0 h13), (fun z => by rw [d2] at z; cases z), trivial⟩
      · skip
        refine q_iconst dX12_isSlice_22 (by decide) ?_
        intro v14 h15
        refine tr_goto 27 dX12_isSlice_23 (by decide) ?_
        exact tr_zret hZ dX12_isSlice_27 rfl (ti_b01 (by exact om_f9079521 h15) (by exact om_e6632817 h15)) (by decide) (by decide) ⟨v14, rfl, rfl, rfl, rfl, rfl, rfl, rfl, (by exact om_d753bc65 h15), (by exact om_9d00385c h5 b10.2 b10.1 h11), (fun z => by rw [d2] at z; cases z), trivial⟩
set_option maxHeartbeats 4000000 in
theorem k_X12_fitsNow {l : Launch} {T : Nat → Nat} {cn : Nat} {K N : Nat → Nat} {I0 : cz_I} {R0 : cz_R} {L0 : cz_L} {d : Int} (hW0 : Wf T cn K N I0 R0 d) {a0 : Nat} (ta0 : T a0 = 15) {x1 : Int32} (hx1 : 0 ≤ x1.toInt ∧ x1.toInt ≤ 3) (nn3 : ∃ b, R0 a0 3 = some b) : ConE l mX12_fitsNow [.ref a0, .int x1] cn K N I0 R0 L0 (ca_i (fun v cn' K' N' I' R' L' => cn = cn' ∧ K = K' ∧ N = N' ∧ I0 = I' ∧ R0 = R' ∧ L0 = L' ∧ True)) := by
  refine ConE.of (by decide +kernel) rfl (Nat.le_of_ble_eq_true rfl) rfl (fun X hX hZ hE => ?_)
  subst hX
  obtain ⟨a1, d2⟩ := nn3
  have ta1 : T a1 = 14 := hW0.rsN ta0 rfl d2
  refine q_iconst dX12_fitsNow_0 (by decide) ?_
  intro v3 h4
  refine tr_istore_n dX12_fitsNow_1 (by decide) (by decide) ?_
  refine q_iconst dX12_fitsNow_2 (by decide) ?_
  intro v5 h6
  refine tr_istore_n dX12_fitsNow_3 (by decide) (by decide) ?_
  have lp14 : ∀ (fu : Nat) (ls : Nat → Option Value) (v7 : Int32) (v8 : Int32), ls 0 = some (.ref a0) → ls 1 = some (.int x1) → ls 2 = some (.int v7) → ls 3 = some (.int v8) → 0 ≤ v8.toInt → (-v8.toInt + 2147483647).toNat < fu → Tr X mX12_fitsNow 4 ls [] cn K N I0 R0 L0 0 0 := by
    intro fu
    induction fu with
    | zero => intros; rename_i hz; exact absurd hz (Nat.not_lt_zero _)
    | succ fu ih14 =>
      intro ls v7 v8 hl9 hl10 hl11 hl12 g13 hm14
      refine tr_iload_n dX12_fitsNow_4 hl12 ?_
      refine tr_aload_n dX12_fitsNow_5 hl9 ?_
      refine tr_getR dX12_fitsNow_6 fl12_385 (kR15 hW0 ta0) d2 ?_
      obtain ⟨v16, c17⟩ : ∃ v, I0 a1 3 = v := ⟨_, rfl⟩
      have b18 := iv14_3 hW0 ta1 c17
      refine q_getI dX12_fitsNow_9 fl12_224 (kR14 hW0 ta1) c17 ?_
      refine q_icmp_ge 134 dX12_fitsNow_12 (by decide) (fun h19 => ?_) (fun h19 => ?_)
      · skip
        refine tr_iload_n dX12_fitsNow_134 hl11 ?_
        exact tr_iret hZ dX12_fitsNow_135 rfl (by decide) (by decide) ⟨v7, rfl, rfl, rfl, rfl, rfl, rfl, rfl, trivial⟩
      · skip
        refine tr_aload_n dX12_fitsNow_15 hl9 ?_
        obtain ⟨a20, d21, ta20⟩ := rf15_29 hW0 ta0
        refine tr_getR dX12_fitsNow_16 fl12_52 (kR15 hW0 ta0) d21 ?_
        refine tr_iload_n dX12_fitsNow_19 hl12 ?_
        refine q_iald dX12_fitsNow_20 (kR89 hW0 ta20) (ti_in (nR89 hW0 ta20) (by exact om_2cfcd5a5 g13) (by exact om_5f13cc30 b18.2 b18.1 h19)) ?_
        intro v22 c23
        refine tr_aload_n dX12_fitsNow_21 hl9 ?_
        obtain ⟨a24, d25, ta24⟩ := rf15_31 hW0 ta0
        refine tr_getR dX12_fitsNow_22 fl12_58 (kR15 hW0 ta0) d25 ?_
        refine tr_iload_n dX12_fitsNow_25 hl12 ?_
        refine q_iald dX12_fitsNow_26 (kR91 hW0 ta24) (ti_in (nR91 hW0 ta24) (by exact om_2cfcd5a5 g13) (by exact om_5f13cc30 b18.2 b18.1 h19)) ?_
        intro v26 c27
        refine q_iadd dX12_fitsNow_27 ?_
        intro v28
        refine tr_aload_n dX12_fitsNow_28 hl9 ?_
        refine tr_getR dX12_fitsNow_29 fl12_385 (kR15 hW0 ta0) d2 ?_
        obtain ⟨a29, d30, ta29⟩ := rf14_17 hW0 ta1
        refine tr_getR dX12_fitsNow_32 fl12_375 (kR14 hW0 ta1) d30 ?_
        refine tr_iload_n dX12_fitsNow_35 hl10 ?_
        refine q_iald dX12_fitsNow_36 (kR60 hW0 ta29) (ti_in (nR60 hW0 ta29) (by exact om_7ab14413 hx1.2 hx1.1) (by exact om_d223d4fc hx1.2 hx1.1)) ?_
        intro v31 c32
        have b33 := iv60 hW0 ta29 c32
        refine q_icmp_ne 44 dX12_fitsNow_37 (by decide) (fun h34 => ?_) (fun h34 => ?_)
        · skip
          refine q_iconst dX12_fitsNow_44 (by decide) ?_
          intro v35 h36
          refine tr_istore dX12_fitsNow_45 (by decide) (by decide) ?_
          refine q_iconst dX12_fitsNow_47 (by decide) ?_
          intro v37 h38
          refine tr_istore dX12_fitsNow_48 (by decide) (by decide) ?_
          have lp48 : ∀ (fu : Nat) (ls : Nat → Option Value) (v39 : Int32) (v40 : Int32), ls 0 = some (.ref a0) → ls 1 = some (.int x1) → ls 2 = some (.int v7) → ls 3 = some (.int v8) → ls 4 = some (.int v39) → ls 5 = some (.int v40) → 0 ≤ v40.toInt → (-v40.toInt + 2147483647).toNat < fu → Tr X mX12_fitsNow 50 ls [] cn K N I0 R0 L0 0 0 := by
            intro fu
            induction fu with
            | zero => intros; rename_i hz; exact absurd hz (Nat.not_lt_zero _)
            | succ fu ih48 =>
              intro ls v39 v40 hl41 hl42 hl43 hl44 hl45 hl46 g47 hm48
              refine tr_iload dX12_fitsNow_50 hl46 ?_
              refine tr_aload_n dX12_fitsNow_52 hl41 ?_
              refine tr_getR dX12_fitsNow_53 fl12_385 (kR15 hW0 ta0) d2 ?_
              refine tr_getR dX12_fitsNow_56 fl12_375 (kR14 hW0 ta1) d30 ?_
              refine tr_iload_n dX12_fitsNow_59 hl42 ?_
              refine q_iald dX12_fitsNow_60 (kR60 hW0 ta29) (ti_in (nR60 hW0 ta29) (by exact om_7ab14413 hx1.2 hx1.1) (by exact om_d223d4fc hx1.2 hx1.1)) ?_
              intro v50 c51
              have b52 := iv60 hW0 ta29 c51
              refine q_icmp_ge 113 dX12_fitsNow_61 (by decide) (fun h53 => ?_) (fun h53 => ?_)
              · skip
                refine tr_iload_n dX12_fitsNow_113 hl43 ?_
                refine tr_iload dX12_fitsNow_114 hl45 ?_
                refine q_if_eq 125 dX12_fitsNow_116 (by decide) (fun h54 => ?_) (fun h54 => ?_)
                · skip
                  refine q_iconst dX12_fitsNow_125 (by decide) ?_
                  intro v55 h56
                  refine q_ior dX12_fitsNow_126 ?_
                  intro v57
                  refine tr_istore_n dX12_fitsNow_127 (by decide) (by decide) ?_
                  refine q_iincE dX12_fitsNow_128 hl44 (by decide) (by decide) (by intro j1 j2; exact om_4034714d g13 b18.2 b18.1 h19 j2) ?_
                  intro v58 h59
                  refine tr_goto 4 dX12_fitsNow_131 (by decide) ?_
                  exact ih14 _ v57 v58 hl41 hl42 rfl rfl (by exact om_68881c41 g13 h59) (by exact om_8ec43a4b g13 hm14 b18.2 b18.1 h19 h34 h59)
                · skip
                  refine q_iconst dX12_fitsNow_119 (by decide) ?_
                  intro v60 h61
                  refine tr_iload_n dX12_fitsNow_120 hl44 ?_
                  refine q_ishl dX12_fitsNow_121 ?_
                  intro v62
                  refine tr_goto 126 dX12_fitsNow_122 (by decide) ?_
                  refine q_ior dX12_fitsNow_126 ?_
                  intro v63
                  refine tr_istore_n dX12_fitsNow_127 (by decide) (by decide) ?_
                  refine q_iincE dX12_fitsNow_128 hl44 (by decide) (by decide) (by intro j1 j2; exact om_4034714d g13 b18.2 b18.1 h19 j2) ?_
                  intro v64 h65
                  refine tr_goto 4 dX12_fitsNow_131 (by decide) ?_
                  exact ih14 _ v63 v64 hl41 hl42 rfl rfl (by exact om_68881c41 g13 h65) (by exact om_3f42c758 g13 hm14 b18.2 b18.1 h19 h34 h54 h65)
              · skip
                refine tr_iload dX12_fitsNow_64 hl45 ?_
                refine q_if_eq 104 dX12_fitsNow_66 (by decide) (fun h66 => ?_) (fun h66 => ?_)
                · skip
                  refine q_iconst dX12_fitsNow_104 (by decide) ?_
                  intro v67 h68
                  refine tr_istore dX12_fitsNow_105 (by decide) (by decide) ?_
                  refine q_iincE dX12_fitsNow_107 hl46 (by decide) (by decide) (by intro j1 j2; exact om_4034714d g47 b52.2 b52.1 h53 j2) ?_
                  intro v69 h70
                  refine tr_goto 50 dX12_fitsNow_110 (by decide) ?_
                  exact ih48 _ v67 v69 hl41 hl42 hl43 hl44 rfl rfl (by exact om_68881c41 g47 h70) (by exact om_fc025699 g47 hm48 b52.2 b52.1 h53 h70)
                · skip
                  refine tr_aload_n dX12_fitsNow_69 hl41 ?_
                  obtain ⟨a71, d72, ta71⟩ := rf15_27 hW0 ta0
                  refine tr_getR dX12_fitsNow_70 fl12_46 (kR15 hW0 ta0) d72 ?_
                  refine q_sipush dX12_fitsNow_73 (by decide +kernel) ?_
                  intro v73 h74
                  refine tr_iload_n dX12_fitsNow_76 hl44 ?_
                  refine q_imulE (c := 240) dX12_fitsNow_77 (by exact om_0c59d38e h74) (by exact om_4999391c g13 b18.2 b18.1 h19) ?_
                  intro v75 h76
                  refine tr_aload_n dX12_fitsNow_78 hl41 ?_
                  refine tr_getR dX12_fitsNow_79 fl12_385 (kR15 hW0 ta0) d2 ?_
                  obtain ⟨a77, d78, ta77⟩ := rf14_18 hW0 ta1
                  refine tr_getR dX12_fitsNow_82 fl12_373 (kR14 hW0 ta1) d78 ?_
                  refine q_bipush dX12_fitsNow_85 (by decide +kernel) ?_
                  intro v79 h80
                  refine tr_iload_n dX12_fitsNow_87 hl42 ?_
                  refine q_imulE (c := 8) dX12_fitsNow_88 (by exact om_ab0fb6d5 h80) (by exact om_fc7bac13 hx1.2 hx1.1) ?_
                  intro v81 h82
                  refine tr_iload dX12_fitsNow_89 hl46 ?_
                  refine q_iaddE dX12_fitsNow_91 (by intro j1 j2 j3 j4; exact om_b8af975d g47 b52.2 b52.1 h53 h82 j1 j2 j4) ?_
                  intro v83 h84
                  refine q_iald dX12_fitsNow_92 (kR61 hW0 ta77) (ti_in (nR61 hW0 ta77) (by exact om_9f721940 hx1.2 hx1.1 g47 b52.2 b52.1 h53 h82 h84) (by exact om_15a74f76 hx1.2 hx1.1 g47 b52.2 b52.1 h53 h82 h84)) ?_
                  intro v85 c86
                  have b87 := iv61 hW0 ta77 c86
                  refine q_iaddE dX12_fitsNow_93 (by intro j1 j2 j3 j4; exact om_8b74134f b18.2 b18.1 h19 h76 b87.2 b87.1 j1 j2) ?_
                  intro v88 h89
                  refine q_iald dX12_fitsNow_94 (kR87 hW0 ta71) (ti_in (nR87 hW0 ta71) (by exact om_2f029b34 g13 h76 b87.2 b87.1 h89) (by exact om_8620caf8 b18.2 b18.1 h19 h76 b87.2 b87.1 h89)) ?_
                  intro v90 c91
                  refine q_bipush dX12_fitsNow_95 (by decide +kernel) ?_
                  intro v92 h93
                  refine q_icmp_eq 104 dX12_fitsNow_97 (by decide) (fun h94 => ?_) (fun h94 => ?_)
                  · skip
                    refine q_iconst dX12_fitsNow_104 (by decide) ?_
                    intro v95 h96
                    refine tr_istore dX12_fitsNow_105 (by decide) (by decide) ?_
                    refine q_iincE dX12_fitsNow_107 hl46 (by decide) (by decide) (by intro j1 j2; exact om_5350951d g47 b52.2 b52.1 h53 h82 h84 j2) ?_
                    intro v97 h98
                    refine tr_goto 50 dX12_fitsNow_110 (by decide) ?_
                    exact ih48 _ v95 v97 hl41 hl42 hl43 hl44 rfl rfl (by exact om_df252df8 g47 h82 h84 h98) (by exact om_2bb80af5 g47 hm48 b52.2 b52.1 h53 h66 h82 h84 h98)
                  · skip
                    refine q_iconst dX12_fitsNow_100 (by decide) ?_
                    intro v99 h100
                    refine tr_goto 105 dX12_fitsNow_101 (by decide) ?_
                    refine tr_istore dX12_fitsNow_105 (by decide) (by decide) ?_
                    refine q_iincE dX12_fitsNow_107 hl46 (by decide) (by decide) (by intro j1 j2; exact om_5350951d g47 b52.2 b52.1 h53 h82 h84 j2) ?_
                    intro v101 h102
                    refine tr_goto 50 dX12_fitsNow_110 (by decide) ?_
                    exact ih48 _ v99 v101 hl41 hl42 hl43 hl44 rfl rfl (by exact om_df252df8 g47 h82 h84 h102) (by exact om_a0f6611d g47 hm48 b52.2 b52.1 h53 h66 h82 h84 h94 h102)
          exact lp48 _ _ v35 v37 hl9 hl10 hl11 hl12 rfl rfl (by exact om_d99fa9e4 h38) (Nat.lt_succ_self _)
        · skip
          refine q_iconst dX12_fitsNow_40 (by decide) ?_
          intro v103 h104
          refine tr_goto 45 dX12_fitsNow_41 (by decide) ?_
          refine tr_istore dX12_fitsNow_45 (by decide) (by decide) ?_
          refine q_iconst dX12_fitsNow_47 (by decide) ?_
          intro v105 h106
          refine tr_istore dX12_fitsNow_48 (by decide) (by decide) ?_
          have lp116 : ∀ (fu : Nat) (ls : Nat → Option Value) (v107 : Int32) (v108 : Int32), ls 0 = some (.ref a0) → ls 1 = some (.int x1) → ls 2 = some (.int v7) → ls 3 = some (.int v8) → ls 4 = some (.int v107) → ls 5 = some (.int v108) → 0 ≤ v108.toInt → (-v108.toInt + 2147483647).toNat < fu → Tr X mX12_fitsNow 50 ls [] cn K N I0 R0 L0 0 0 := by
            intro fu
            induction fu with
            | zero => intros; rename_i hz; exact absurd hz (Nat.not_lt_zero _)
            | succ fu ih116 =>
              intro ls v107 v108 hl109 hl110 hl111 hl112 hl113 hl114 g115 hm116
              refine tr_iload dX12_fitsNow_50 hl114 ?_
              refine tr_aload_n dX12_fitsNow_52 hl109 ?_
              refine tr_getR dX12_fitsNow_53 fl12_385 (kR15 hW0 ta0) d2 ?_
              refine tr_getR dX12_fitsNow_56 fl12_375 (kR14 hW0 ta1) d30 ?_
              refine tr_iload_n dX12_fitsNow_59 hl110 ?_
              refine q_iald dX12_fitsNow_60 (kR60 hW0 ta29) (ti_in (nR60 hW0 ta29) (by exact om_7ab14413 hx1.2 hx1.1) (by exact om_d223d4fc hx1.2 hx1.1)) ?_
              intro v118 c119
              have b120 := iv60 hW0 ta29 c119
              refine q_icmp_ge 113 dX12_fitsNow_61 (by decide) (fun h121 => ?_) (fun h121 => ?_)
              · skip
                refine tr_iload_n dX12_fitsNow_113 hl111 ?_
                refine tr_iload dX12_fitsNow_114 hl113 ?_
                refine q_if_eq 125 dX12_fitsNow_116 (by decide) (fun h122 => ?_) (fun h122 => ?_)
                · skip
                  refine q_iconst dX12_fitsNow_125 (by decide) ?_
                  intro v123 h124
                  refine q_ior dX12_fitsNow_126 ?_
                  intro v125
                  refine tr_istore_n dX12_fitsNow_127 (by decide) (by decide) ?_
                  refine q_iincE dX12_fitsNow_128 hl112 (by decide) (by decide) (by intro j1 j2; exact om_4034714d g13 b18.2 b18.1 h19 j2) ?_
                  intro v126 h127
                  refine tr_goto 4 dX12_fitsNow_131 (by decide) ?_
                  exact ih14 _ v125 v126 hl109 hl110 rfl rfl (by exact om_68881c41 g13 h127) (by exact om_fc025699 g13 hm14 b18.2 b18.1 h19 h127)
                · skip
                  refine q_iconst dX12_fitsNow_119 (by decide) ?_
                  intro v128 h129
                  refine tr_iload_n dX12_fitsNow_120 hl112 ?_
                  refine q_ishl dX12_fitsNow_121 ?_
                  intro v130
                  refine tr_goto 126 dX12_fitsNow_122 (by decide) ?_
                  refine q_ior dX12_fitsNow_126 ?_
                  intro v131
                  refine tr_istore_n dX12_fitsNow_127 (by decide) (by decide) ?_
                  refine q_iincE dX12_fitsNow_128 hl112 (by decide) (by decide) (by intro j1 j2; exact om_4034714d g13 b18.2 b18.1 h19 j2) ?_
                  intro v132 h133
                  refine tr_goto 4 dX12_fitsNow_131 (by decide) ?_
                  exact ih14 _ v131 v132 hl109 hl110 rfl rfl (by exact om_68881c41 g13 h133) (by exact om_ad1f7e25 g13 hm14 b18.2 b18.1 h19 h122 h133)
              · skip
                refine tr_iload dX12_fitsNow_64 hl113 ?_
                refine q_if_eq 104 dX12_fitsNow_66 (by decide) (fun h134 => ?_) (fun h134 => ?_)
                · skip
                  refine q_iconst dX12_fitsNow_104 (by decide) ?_
                  intro v135 h136
                  refine tr_istore dX12_fitsNow_105 (by decide) (by decide) ?_
                  refine q_iincE dX12_fitsNow_107 hl114 (by decide) (by decide) (by intro j1 j2; exact om_4034714d g115 b120.2 b120.1 h121 j2) ?_
                  intro v137 h138
                  refine tr_goto 50 dX12_fitsNow_110 (by decide) ?_
                  exact ih116 _ v135 v137 hl109 hl110 hl111 hl112 rfl rfl (by exact om_68881c41 g115 h138) (by exact om_fc025699 g115 hm116 b120.2 b120.1 h121 h138)
                · skip
                  refine tr_aload_n dX12_fitsNow_69 hl109 ?_
                  obtain ⟨a139, d140, ta139⟩ := rf15_27 hW0 ta0
                  refine tr_getR dX12_fitsNow_70 fl12_46 (kR15 hW0 ta0) d140 ?_
                  refine q_sipush dX12_fitsNow_73 (by decide +kernel) ?_
                  intro v141 h142
                  refine tr_iload_n dX12_fitsNow_76 hl112 ?_
                  refine q_imulE (c := 240) dX12_fitsNow_77 (by exact om_0c59d38e h142) (by exact om_4999391c g13 b18.2 b18.1 h19) ?_
                  intro v143 h144
                  refine tr_aload_n dX12_fitsNow_78 hl109 ?_
                  refine tr_getR dX12_fitsNow_79 fl12_385 (kR15 hW0 ta0) d2 ?_
                  obtain ⟨a145, d146, ta145⟩ := rf14_18 hW0 ta1
                  refine tr_getR dX12_fitsNow_82 fl12_373 (kR14 hW0 ta1) d146 ?_
                  refine q_bipush dX12_fitsNow_85 (by decide +kernel) ?_
                  intro v147 h148
                  refine tr_iload_n dX12_fitsNow_87 hl110 ?_
                  refine q_imulE (c := 8) dX12_fitsNow_88 (by exact om_ab0fb6d5 h148) (by exact om_fc7bac13 hx1.2 hx1.1) ?_
                  intro v149 h150
                  refine tr_iload dX12_fitsNow_89 hl114 ?_
                  refine q_iaddE dX12_fitsNow_91 (by intro j1 j2 j3 j4; exact om_b8af975d g115 b120.2 b120.1 h121 h150 j1 j2 j4) ?_
                  intro v151 h152
                  refine q_iald dX12_fitsNow_92 (kR61 hW0 ta145) (ti_in (nR61 hW0 ta145) (by exact om_9f721940 hx1.2 hx1.1 g115 b120.2 b120.1 h121 h150 h152) (by exact om_15a74f76 hx1.2 hx1.1 g115 b120.2 b120.1 h121 h150 h152)) ?_
                  intro v153 c154
                  have b155 := iv61 hW0 ta145 c154
                  refine q_iaddE dX12_fitsNow_93 (by intro j1 j2 j3 j4; exact om_29368ad4 g13 b18.2 b18.1 h19 h144 b155.2 b155.1) ?_
                  intro v156 h157
                  refine q_iald dX12_fitsNow_94 (kR87 hW0 ta139) (ti_in (nR87 hW0 ta139) (by exact om_2f029b34 g13 h144 b155.2 b155.1 h157) (by exact om_8620caf8 b18.2 b18.1 h19 h144 b155.2 b155.1 h157)) ?_
                  intro v158 c159
                  refine q_bipush dX12_fitsNow_95 (by decide +kernel) ?_
                  intro v160 h161
                  refine q_icmp_eq 104 dX12_fitsNow_97 (by decide) (fun h162 => ?_) (fun h162 => ?_)
                  · skip
                    refine q_iconst dX12_fitsNow_104 (by decide) ?_
                    intro v163 h164
                    refine tr_istore dX12_fitsNow_105 (by decide) (by decide) ?_
                    refine q_iincE dX12_fitsNow_107 hl114 (by decide) (by decide) (by intro j1 j2; exact om_5350951d g115 b120.2 b120.1 h121 h150 h152 j2) ?_
                    intro v165 h166
                    refine tr_goto 50 dX12_fitsNow_110 (by decide) ?_
                    exact ih116 _ v163 v165 hl109 hl110 hl111 hl112 rfl rfl (by exact om_df252df8 g115 h150 h152 h166) (by exact om_2bb80af5 g115 hm116 b120.2 b120.1 h121 h134 h150 h152 h166)
                  · skip
                    refine q_iconst dX12_fitsNow_100 (by decide) ?_
                    intro v167 h168
                    refine tr_goto 105 dX12_fitsNow_101 (by decide) ?_
                    refine tr_istore dX12_fitsNow_105 (by decide) (by decide) ?_
                    refine q_iincE dX12_fitsNow_107 hl114 (by decide) (by decide) (by intro j1 j2; exact om_5350951d g115 b120.2 b120.1 h121 h150 h152 j2) ?_
                    intro v169 h170
                    refine tr_goto 50 dX12_fitsNow_110 (by decide) ?_
                    exact ih116 _ v167 v169 hl109 hl110 hl111 hl112 rfl rfl (by exact om_df252df8 g115 h150 h152 h170) (by exact om_a0f6611d g115 hm116 b120.2 b120.1 h121 h134 h150 h152 h162 h170)
          exact lp116 _ _ v103 v105 hl9 hl10 hl11 hl12 rfl rfl (by exact om_d99fa9e4 h106) (Nat.lt_succ_self _)
  exact lp14 _ _ v3 v5 rfl rfl rfl rfl (by exact om_d99fa9e4 h6) (Nat.lt_succ_self _)
def wi_X12_fits : List Nat := [960, 961, 962, 5247, 5311, 5375, 5439, 5503, 5567, 5631, 5695, 5759, 5823, 5887, 5951, 6015]
def wr_X12_fits : List Nat := []
set_option maxHeartbeats 4000000 in
theorem k_X12_fits {l : Launch} {T : Nat → Nat} {cn : Nat} {K N : Nat → Nat} {I0 : cz_I} {R0 : cz_R} {L0 : cz_L} {d : Int} (hW0 : Wf T cn K N I0 R0 d) {a0 : Nat} (ta0 : T a0 = 15) {x1 : Int32} : ConE l mX12_fits [.ref a0, .int x1] cn K N I0 R0 L0 (ca_i (fun v cn' K' N' I' R' L' => cn = cn' ∧ K = K' ∧ N = N' ∧ R0 = R' ∧ L0 = L' ∧ St T cn K N d wi_X12_fits wr_X12_fits I0 R0 I' R0 ∧ True)) := by
  refine ConE.of (by decide +kernel) rfl (Nat.le_of_ble_eq_true rfl) rfl (fun X hX hZ hE => ?_)
  subst hX
  have hS0 : St T cn K N d wi_X12_fits wr_X12_fits I0 R0 I0 R0 := St.rf0 hW0
  rcases rf15_3 hW0 ta0 with d2 | ⟨a1, d2, ta1⟩
  · skip
    refine tr_aload_n dX12_fits_0 rfl ?_
    refine q_iconst dX12_fits_1 (by decide) ?_
    intro v3 h4
    refine q_putI dX12_fits_2 fl12_70 (kR15 hS0.1 ta0) (Or.inl rfl) hS0 ta0 (iokF rfl) rfl (by decide +kernel) ?_
    intro I5 hS6 e7 f8
    refine tr_aload_n dX12_fits_5 rfl ?_
    refine tr_iload_n dX12_fits_6 rfl ?_
    refine q_callVi hE (M' := mX12_isSlice) (as := [_]) dX12_fits_7 lk12_485 inX12_isSlice seX12_isSlice myX12_isSlice (by decide) ⟨by decide, by decide⟩ rfl (kR15 hS6.1 ta0) (Nat.le_of_ble_eq_true rfl) rfl rfl (by decide) (by decide) (k_X12_isSlice hS6.1 ta0) ?_
    rintro v13 cn' K' N' I9 R10 L11 ⟨rfl, rfl, rfl, rfl, rfl, rfl, h14, p15, p16, -⟩
    have p17 := (p16 d2)
    refine q_if_ne 19 dX12_fits_10 (by decide) (fun h18 => ?_) (fun h18 => ?_)
    · skip
      exfalso; exact om_3a97d4a5 p17 h18
    · skip
      refine tr_aload_n dX12_fits_13 rfl ?_
      refine q_iconst dX12_fits_14 (by decide) ?_
      intro v19 h20
      refine q_callVi hE (M' := mX12_refused) (as := [_]) dX12_fits_15 lk12_76 inX12_refused seX12_refused myX12_refused (by decide) ⟨by decide, by decide⟩ rfl (kR15 hS6.1 ta0) (Nat.le_of_ble_eq_true rfl) rfl rfl (by decide) (by decide) (k_X12_refused hS6.1 ta0) ?_
      rintro v25 cn' K' N' I21 R22 L23 ⟨rfl, rfl, rfl, rfl, rfl, g24, -⟩
      have hS26 := hS6.tr g24 (by decide +kernel) (by decide +kernel)
      have c27 : I21 a0 0 = v3 := (g24.cell ta0 (by decide +kernel)).trans e7
      exact tr_iret hZ dX12_fits_18 rfl (by decide) (by decide) ⟨v25, rfl, rfl, rfl, rfl, rfl, rfl, hS26, trivial⟩
  · skip
    refine tr_aload_n dX12_fits_0 rfl ?_
    refine q_iconst dX12_fits_1 (by decide) ?_
    intro v28 h29
    refine q_putI dX12_fits_2 fl12_70 (kR15 hS0.1 ta0) (Or.inl rfl) hS0 ta0 (iokF rfl) rfl (by decide +kernel) ?_
    intro I30 hS31 e32 f33
    refine tr_aload_n dX12_fits_5 rfl ?_
    refine tr_iload_n dX12_fits_6 rfl ?_
    refine q_callVi hE (M' := mX12_isSlice) (as := [_]) dX12_fits_7 lk12_485 inX12_isSlice seX12_isSlice myX12_isSlice (by decide) ⟨by decide, by decide⟩ rfl (kR15 hS31.1 ta0) (Nat.le_of_ble_eq_true rfl) rfl rfl (by decide) (by decide) (k_X12_isSlice hS31.1 ta0) ?_
    rintro v38 cn' K' N' I34 R35 L36 ⟨rfl, rfl, rfl, rfl, rfl, rfl, h39, p40, p41, -⟩
    refine q_if_ne 19 dX12_fits_10 (by decide) (fun h42 => ?_) (fun h42 => ?_)
    · skip
      refine tr_aload_n dX12_fits_19 rfl ?_
      refine q_callVi hE (M' := mX12_tonight) (as := []) dX12_fits_20 lk12_455 inX12_tonight seX12_tonight myX12_tonight (by decide) ⟨by decide, by decide⟩ rfl (kR15 hS31.1 ta0) (Nat.le_of_ble_eq_true rfl) rfl rfl (by decide) (by decide) (k_X12_tonight hS31.1 ta0 ⟨_, d2⟩) ?_
      rintro v47 cn' K' N' I43 R44 L45 ⟨rfl, rfl, rfl, rfl, rfl, g46, -⟩
      have hS48 := hS31.tr g46 (by decide +kernel) (by decide +kernel)
      have c49 : I43 a0 0 = v28 := (g46.cell ta0 (by decide +kernel)).trans e32
      refine tr_pop dX12_fits_23 rfl ?_
      refine tr_aload_n dX12_fits_24 rfl ?_
      refine tr_aload_n dX12_fits_25 rfl ?_
      refine tr_iload_n dX12_fits_26 rfl ?_
      refine q_callVi hE (M' := mX12_fitsNow) (as := [_]) dX12_fits_27 lk12_488 inX12_fitsNow seX12_fitsNow myX12_fitsNow (by decide) ⟨by decide, by decide⟩ rfl (kR15 hS48.1 ta0) (Nat.le_of_ble_eq_true rfl) rfl rfl (by decide) (by decide) (k_X12_fitsNow hS48.1 ta0 (by exact om_75f753d6 h39.2 h39.1 p40 h42) ⟨_, d2⟩) ?_
      rintro v54 cn' K' N' I50 R51 L52 ⟨rfl, rfl, rfl, rfl, rfl, rfl, -⟩
      refine q_callVi hE (M' := mX12_good) (as := [_]) dX12_fits_30 lk12_81 inX12_good seX12_good myX12_good (by decide) ⟨by decide, by decide⟩ rfl (kR15 hS48.1 ta0) (Nat.le_of_ble_eq_true rfl) rfl rfl (by decide) (by decide) (k_X12_good hS48.1 ta0) ?_
      rintro v59 cn' K' N' I55 R56 L57 ⟨rfl, rfl, rfl, rfl, rfl, g58, -⟩
      have hS60 := hS48.tr g58 (by decide +kernel) (by decide +kernel)
      have c61 : I55 a0 0 = v28 := (g58.cell ta0 (by decide +kernel)).trans c49
      exact tr_iret hZ dX12_fits_33 rfl (by decide) (by decide) ⟨v59, rfl, rfl, rfl, rfl, rfl, rfl, hS60, trivial⟩
    · skip
      refine tr_aload_n dX12_fits_13 rfl ?_
      refine q_iconst dX12_fits_14 (by decide) ?_
      intro v62 h63
      refine q_callVi hE (M' := mX12_refused) (as := [_]) dX12_fits_15 lk12_76 inX12_refused seX12_refused myX12_refused (by decide) ⟨by decide, by decide⟩ rfl (kR15 hS31.1 ta0) (Nat.le_of_ble_eq_true rfl) rfl rfl (by decide) (by decide) (k_X12_refused hS31.1 ta0) ?_
      rintro v68 cn' K' N' I64 R65 L66 ⟨rfl, rfl, rfl, rfl, rfl, g67, -⟩
      have hS69 := hS31.tr g67 (by decide +kernel) (by decide +kernel)
      have c70 : I64 a0 0 = v28 := (g67.cell ta0 (by decide +kernel)).trans e32
      exact tr_iret hZ dX12_fits_18 rfl (by decide) (by decide) ⟨v68, rfl, rfl, rfl, rfl, rfl, rfl, hS69, trivial⟩
def wi_X12_by : List Nat := [960, 961, 962, 5247, 5311, 5375, 5439, 5503, 5567, 5631, 5695, 5759, 5823, 5887, 5951, 6015]
def wr_X12_by : List Nat := []
set_option maxHeartbeats 4000000 in
theorem k_X12_by {l : Launch} {T : Nat → Nat} {cn : Nat} {K N : Nat → Nat} {I0 : cz_I} {R0 : cz_R} {L0 : cz_L} {d : Int} (hW0 : Wf T cn K N I0 R0 d) {a0 : Nat} (ta0 : T a0 = 15) {x1 : Int32} : ConE l mX12_by [.ref a0, .int x1] cn K N I0 R0 L0 (ca_i (fun v cn' K' N' I' R' L' => cn = cn' ∧ K = K' ∧ N = N' ∧ R0 = R' ∧ L0 = L' ∧ St T cn K N d wi_X12_by wr_X12_by I0 R0 I' R0 ∧ True)) := by
  refine ConE.of (by decide +kernel) rfl (Nat.le_of_ble_eq_true rfl) rfl (fun X hX hZ hE => ?_)
  subst hX
  have hS0 : St T cn K N d wi_X12_by wr_X12_by I0 R0 I0 R0 := St.rf0 hW0
  rcases rf15_3 hW0 ta0 with d2 | ⟨a1, d2, ta1⟩
  · skip
    refine tr_aload_n dX12_by_0 rfl ?_
    refine q_iconst dX12_by_1 (by decide) ?_
    intro v3 h4
    refine q_putI dX12_by_2 fl12_70 (kR15 hS0.1 ta0) (Or.inl rfl) hS0 ta0 (iokF rfl) rfl (by decide +kernel) ?_
    intro I5 hS6 e7 f8
    refine tr_aload_n dX12_by_5 rfl ?_
    refine tr_iload_n dX12_by_6 rfl ?_
    refine q_callVi hE (M' := mX12_isSlice) (as := [_]) dX12_by_7 lk12_485 inX12_isSlice seX12_isSlice myX12_isSlice (by decide) ⟨by decide, by decide⟩ rfl (kR15 hS6.1 ta0) (Nat.le_of_ble_eq_true rfl) rfl rfl (by decide) (by decide) (k_X12_isSlice hS6.1 ta0) ?_
    rintro v13 cn' K' N' I9 R10 L11 ⟨rfl, rfl, rfl, rfl, rfl, rfl, h14, p15, p16, -⟩
    have p17 := (p16 d2)
    refine q_if_ne 19 dX12_by_10 (by decide) (fun h18 => ?_) (fun h18 => ?_)
    · skip
      exfalso; exact om_3a97d4a5 p17 h18
    · skip
      refine tr_aload_n dX12_by_13 rfl ?_
      refine q_iconst dX12_by_14 (by decide) ?_
      intro v19 h20
      refine q_callVi hE (M' := mX12_refused) (as := [_]) dX12_by_15 lk12_76 inX12_refused seX12_refused myX12_refused (by decide) ⟨by decide, by decide⟩ rfl (kR15 hS6.1 ta0) (Nat.le_of_ble_eq_true rfl) rfl rfl (by decide) (by decide) (k_X12_refused hS6.1 ta0) ?_
      rintro v25 cn' K' N' I21 R22 L23 ⟨rfl, rfl, rfl, rfl, rfl, g24, -⟩
      have hS26 := hS6.tr g24 (by decide +kernel) (by decide +kernel)
      have c27 : I21 a0 0 = v3 := (g24.cell ta0 (by decide +kernel)).trans e7
      exact tr_iret hZ dX12_by_18 rfl (by decide) (by decide) ⟨v25, rfl, rfl, rfl, rfl, rfl, rfl, hS26, trivial⟩
  · skip
    refine tr_aload_n dX12_by_0 rfl ?_
    refine q_iconst dX12_by_1 (by decide) ?_
    intro v28 h29
    refine q_putI dX12_by_2 fl12_70 (kR15 hS0.1 ta0) (Or.inl rfl) hS0 ta0 (iokF rfl) rfl (by decide +kernel) ?_
    intro I30 hS31 e32 f33
    refine tr_aload_n dX12_by_5 rfl ?_
    refine tr_iload_n dX12_by_6 rfl ?_
    refine q_callVi hE (M' := mX12_isSlice) (as := [_]) dX12_by_7 lk12_485 inX12_isSlice seX12_isSlice myX12_isSlice (by decide) ⟨by decide, by decide⟩ rfl (kR15 hS31.1 ta0) (Nat.le_of_ble_eq_true rfl) rfl rfl (by decide) (by decide) (k_X12_isSlice hS31.1 ta0) ?_
    rintro v38 cn' K' N' I34 R35 L36 ⟨rfl, rfl, rfl, rfl, rfl, rfl, h39, p40, p41, -⟩
    refine q_if_ne 19 dX12_by_10 (by decide) (fun h42 => ?_) (fun h42 => ?_)
    · skip
      refine tr_aload_n dX12_by_19 rfl ?_
      refine q_iconst dX12_by_20 (by decide) ?_
      intro v43 h44
      refine q_callVv hE (M' := mX12_laysLight) (as := [_]) dX12_by_21 lk12_434 inX12_laysLight seX12_laysLight myX12_laysLight (by decide) ⟨by decide, by decide⟩ rfl (kR15 hS31.1 ta0) (Nat.le_of_ble_eq_true rfl) rfl rfl (by decide) (by decide) (k_X12_laysLight hS31.1 ta0 ⟨_, d2⟩) ?_
      rintro cn' K' N' I45 R46 L47 ⟨rfl, rfl, rfl, rfl, rfl, g48, -⟩
      have hS50 := hS31.tr g48 (by decide +kernel) (by decide +kernel)
      have c51 : I45 a0 0 = v28 := (g48.cell ta0 (by decide +kernel)).trans e32
      refine q_bipush dX12_by_24 (by decide +kernel) ?_
      intro v52 h53
      refine tr_istore_n dX12_by_26 (by decide) (by decide) ?_
      refine q_iconst dX12_by_27 (by decide) ?_
      intro v54 h55
      refine tr_istore_n dX12_by_28 (by decide) (by decide) ?_
      have lp65 : ∀ (fu : Nat) (ls : Nat → Option Value) (v56 : Int32) (v57 : Int32) (I62 : cz_I), ls 0 = some (.ref a0) → ls 1 = some (.int x1) → ls 2 = some (.int v56) → ls 3 = some (.int v57) → St T cn K N d wi_X12_by wr_X12_by I0 R0 I62 R0 → 0 ≤ v57.toInt → (-v57.toInt + 2147483647).toNat < fu → Tr X mX12_by 29 ls [] cn K N I62 R0 L0 0 0 := by
        intro fu
        induction fu with
        | zero => intros; rename_i hz; exact absurd hz (Nat.not_lt_zero _)
        | succ fu ih65 =>
          intro ls v56 v57 I62 hl58 hl59 hl60 hl61 hS63 g64 hm65
          refine tr_iload_n dX12_by_29 hl61 ?_
          refine q_iconst dX12_by_30 (by decide) ?_
          intro v67 h68
          refine tr_aload_n dX12_by_31 hl58 ?_
          refine tr_getR dX12_by_32 fl12_385 (kR15 hS63.1 ta0) d2 ?_
          obtain ⟨v69, c70⟩ : ∃ v, I0 a1 5 = v := ⟨_, rfl⟩
          have b71 := iv14_5 hW0 ta1 c70
          refine q_getI dX12_by_35 fl12_349 (kR14 hS63.1 ta1) ((hS63.cell ta1 (by decide +kernel)).trans c70) ?_
          refine q_ishlE dX12_by_38 (by exact om_ee8a1e2d h68) (by exact om_cafeadf3 b71) ?_
          intro v72 h73
          refine q_icmp_ge 88 dX12_by_39 (by decide) (fun h74 => ?_) (fun h74 => ?_)
          · skip
            refine tr_aload_n dX12_by_88 hl58 ?_
            refine tr_iload_n dX12_by_89 hl60 ?_
            refine q_callVi hE (M' := mX12_good) (as := [_]) dX12_by_90 lk12_81 inX12_good seX12_good myX12_good (by decide) ⟨by decide, by decide⟩ rfl (kR15 hS63.1 ta0) (Nat.le_of_ble_eq_true rfl) rfl rfl (by decide) (by decide) (k_X12_good hS63.1 ta0) ?_
            rintro v79 cn' K' N' I75 R76 L77 ⟨rfl, rfl, rfl, rfl, rfl, g78, -⟩
            have hS80 := hS63.tr g78 (by decide +kernel) (by decide +kernel)
            exact tr_iret hZ dX12_by_93 rfl (by decide) (by decide) ⟨v79, rfl, rfl, rfl, rfl, rfl, rfl, hS80, trivial⟩
          · skip
            refine tr_iload_n dX12_by_42 hl60 ?_
            refine q_bipush dX12_by_43 (by decide +kernel) ?_
            intro v81 h82
            refine q_icmp_eq 62 dX12_by_45 (by decide) (fun h83 => ?_) (fun h83 => ?_)
            · skip
              refine tr_aload_n dX12_by_62 hl58 ?_
              refine tr_aload_n dX12_by_63 hl58 ?_
              refine q_callVi hE (M' := mX12_everybody) (as := []) dX12_by_64 lk12_437 inX12_everybody seX12_everybody myX12_everybody (by decide) ⟨by decide, by decide⟩ rfl (kR15 hS63.1 ta0) (Nat.le_of_ble_eq_true rfl) rfl rfl (by decide) (by decide) (k_X12_everybody hS63.1 ta0 ⟨_, d2⟩) ?_
              rintro v88 cn' K' N' I84 R85 L86 ⟨rfl, rfl, rfl, rfl, rfl, rfl, h89, -⟩
              refine tr_iload_n dX12_by_67 hl61 ?_
              refine q_callVi hE (M' := mX12_goes) (as := [_, _]) dX12_by_68 lk12_440 inX12_goes seX12_goes myX12_goes (by decide) ⟨by decide, by decide⟩ rfl (kR15 hS63.1 ta0) (Nat.le_of_ble_eq_true rfl) rfl rfl (by decide) (by decide) (k_X12_goes hS63.1 ta0 ⟨_, d2⟩) ?_
              rintro v94 cn' K' N' I90 R91 L92 ⟨rfl, rfl, rfl, rfl, rfl, g93, -⟩
              have hS95 := hS63.tr g93 (by decide +kernel) (by decide +kernel)
              refine tr_pop dX12_by_71 rfl ?_
              refine tr_aload_n dX12_by_72 hl58 ?_
              refine tr_iload_n dX12_by_73 hl59 ?_
              refine q_callVi hE (M' := mX12_fitsNow) (as := [_]) dX12_by_74 lk12_488 inX12_fitsNow seX12_fitsNow myX12_fitsNow (by decide) ⟨by decide, by decide⟩ rfl (kR15 hS95.1 ta0) (Nat.le_of_ble_eq_true rfl) rfl rfl (by decide) (by decide) (k_X12_fitsNow hS95.1 ta0 (by exact om_6051133f h39.2 h39.1 p40 h42 h73.2 h73.1 h74) ⟨_, d2⟩) ?_
              rintro v100 cn' K' N' I96 R97 L98 ⟨rfl, rfl, rfl, rfl, rfl, rfl, -⟩
              refine q_if_eq 82 dX12_by_77 (by decide) (fun h101 => ?_) (fun h101 => ?_)
              · skip
                refine q_iincE dX12_by_82 hl61 (by decide) (by decide) (by intro j1 j2; exact om_d8781e1f g64 h73.2 h73.1 h74 j2) ?_
                intro v102 h103
                refine tr_goto 29 dX12_by_85 (by decide) ?_
                exact ih65 _ v56 v102 I90 hl58 hl59 hl60 rfl hS95 (by exact om_68881c41 g64 h103) (by exact om_78891f55 g64 hm65 h73.2 h73.1 h74 h103)
              · skip
                refine tr_iload_n dX12_by_80 hl61 ?_
                refine tr_istore_n dX12_by_81 (by decide) (by decide) ?_
                refine q_iincE dX12_by_82 hl61 (by decide) (by decide) (by intro j1 j2; exact om_d8781e1f g64 h73.2 h73.1 h74 j2) ?_
                intro v104 h105
                refine tr_goto 29 dX12_by_85 (by decide) ?_
                exact ih65 _ v57 v104 I90 hl58 hl59 rfl rfl hS95 (by exact om_68881c41 g64 h105) (by exact om_32876a13 g64 hm65 h73.2 h73.1 h74 h101 h105)
            · skip
              refine tr_iload_n dX12_by_48 hl61 ?_
              refine q_callSi hE (M' := mX12_bits) (as := [_]) dX12_by_49 lk12_473 inX12_bits myX12_bits ⟨by decide, by decide⟩ rfl (Nat.le_of_ble_eq_true rfl) rfl rfl (by decide) (by decide) (k_X12_bits hS63.1 ) ?_
              rintro v110 cn' K' N' I106 R107 L108 ⟨rfl, rfl, rfl, rfl, rfl, rfl, -⟩
              refine tr_iload_n dX12_by_52 hl60 ?_
              refine q_callSi hE (M' := mX12_bits) (as := [_]) dX12_by_53 lk12_473 inX12_bits myX12_bits ⟨by decide, by decide⟩ rfl (Nat.le_of_ble_eq_true rfl) rfl rfl (by decide) (by decide) (k_X12_bits hS63.1 ) ?_
              rintro v115 cn' K' N' I111 R112 L113 ⟨rfl, rfl, rfl, rfl, rfl, rfl, -⟩
              refine q_icmp_lt 62 dX12_by_56 (by decide) (fun h116 => ?_) (fun h116 => ?_)
              · skip
                refine tr_aload_n dX12_by_62 hl58 ?_
                refine tr_aload_n dX12_by_63 hl58 ?_
                refine q_callVi hE (M' := mX12_everybody) (as := []) dX12_by_64 lk12_437 inX12_everybody seX12_everybody myX12_everybody (by decide) ⟨by decide, by decide⟩ rfl (kR15 hS63.1 ta0) (Nat.le_of_ble_eq_true rfl) rfl rfl (by decide) (by decide) (k_X12_everybody hS63.1 ta0 ⟨_, d2⟩) ?_
                rintro v121 cn' K' N' I117 R118 L119 ⟨rfl, rfl, rfl, rfl, rfl, rfl, h122, -⟩
                refine tr_iload_n dX12_by_67 hl61 ?_
                refine q_callVi hE (M' := mX12_goes) (as := [_, _]) dX12_by_68 lk12_440 inX12_goes seX12_goes myX12_goes (by decide) ⟨by decide, by decide⟩ rfl (kR15 hS63.1 ta0) (Nat.le_of_ble_eq_true rfl) rfl rfl (by decide) (by decide) (k_X12_goes hS63.1 ta0 ⟨_, d2⟩) ?_
                rintro v127 cn' K' N' I123 R124 L125 ⟨rfl, rfl, rfl, rfl, rfl, g126, -⟩
                have hS128 := hS63.tr g126 (by decide +kernel) (by decide +kernel)
                refine tr_pop dX12_by_71 rfl ?_
                refine tr_aload_n dX12_by_72 hl58 ?_
                refine tr_iload_n dX12_by_73 hl59 ?_
                refine q_callVi hE (M' := mX12_fitsNow) (as := [_]) dX12_by_74 lk12_488 inX12_fitsNow seX12_fitsNow myX12_fitsNow (by decide) ⟨by decide, by decide⟩ rfl (kR15 hS128.1 ta0) (Nat.le_of_ble_eq_true rfl) rfl rfl (by decide) (by decide) (k_X12_fitsNow hS128.1 ta0 (by exact om_a6224465 h39.2 h39.1 p40 h42 h73.2 h73.1 h74 h83) ⟨_, d2⟩) ?_
                rintro v133 cn' K' N' I129 R130 L131 ⟨rfl, rfl, rfl, rfl, rfl, rfl, -⟩
                refine q_if_eq 82 dX12_by_77 (by decide) (fun h134 => ?_) (fun h134 => ?_)
                · skip
                  refine q_iincE dX12_by_82 hl61 (by decide) (by decide) (by intro j1 j2; exact om_d8781e1f g64 h73.2 h73.1 h74 j2) ?_
                  intro v135 h136
                  refine tr_goto 29 dX12_by_85 (by decide) ?_
                  exact ih65 _ v56 v135 I123 hl58 hl59 hl60 rfl hS128 (by exact om_68881c41 g64 h136) (by exact om_5e6426ec g64 hm65 h73.2 h73.1 h74 h83 h136)
                · skip
                  refine tr_iload_n dX12_by_80 hl61 ?_
                  refine tr_istore_n dX12_by_81 (by decide) (by decide) ?_
                  refine q_iincE dX12_by_82 hl61 (by decide) (by decide) (by intro j1 j2; exact om_d8781e1f g64 h73.2 h73.1 h74 j2) ?_
                  intro v137 h138
                  refine tr_goto 29 dX12_by_85 (by decide) ?_
                  exact ih65 _ v57 v137 I123 hl58 hl59 rfl rfl hS128 (by exact om_68881c41 g64 h138) (by exact om_c3ce99a4 g64 hm65 h73.2 h73.1 h74 h83 h134 h138)
              · skip
                refine tr_goto 82 dX12_by_59 (by decide) ?_
                refine q_iincE dX12_by_82 hl61 (by decide) (by decide) (by intro j1 j2; exact om_d8781e1f g64 h73.2 h73.1 h74 j2) ?_
                intro v139 h140
                refine tr_goto 29 dX12_by_85 (by decide) ?_
                exact ih65 _ v56 v139 I62 hl58 hl59 hl60 rfl hS63 (by exact om_68881c41 g64 h140) (by exact om_5e6426ec g64 hm65 h73.2 h73.1 h74 h83 h140)
      exact lp65 _ _ v52 v54 I45 rfl rfl rfl rfl hS50 (by exact om_d99fa9e4 h55) (Nat.lt_succ_self _)
    · skip
      refine tr_aload_n dX12_by_13 rfl ?_
      refine q_iconst dX12_by_14 (by decide) ?_
      intro v141 h142
      refine q_callVi hE (M' := mX12_refused) (as := [_]) dX12_by_15 lk12_76 inX12_refused seX12_refused myX12_refused (by decide) ⟨by decide, by decide⟩ rfl (kR15 hS31.1 ta0) (Nat.le_of_ble_eq_true rfl) rfl rfl (by decide) (by decide) (k_X12_refused hS31.1 ta0) ?_
      rintro v147 cn' K' N' I143 R144 L145 ⟨rfl, rfl, rfl, rfl, rfl, g146, -⟩
      have hS148 := hS31.tr g146 (by decide +kernel) (by decide +kernel)
      have c149 : I143 a0 0 = v28 := (g146.cell ta0 (by decide +kernel)).trans e32
      exact tr_iret hZ dX12_by_18 rfl (by decide) (by decide) ⟨v147, rfl, rfl, rfl, rfl, rfl, rfl, hS148, trivial⟩
