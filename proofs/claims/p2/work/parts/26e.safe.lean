def wi_X12_by : List Nat := [960, 961, 962, 5247, 5311, 5375, 5439, 5503, 5567, 5631, 5695, 5759, 5823, 5887, 5951, 6015]
def wr_X12_by : List Nat := []
set_option maxHeartbeats 4000000 in
theorem k_X12_by {l : Launch} {T : Nat → Nat} {cn : Nat} {K N : Nat → Nat} {I0 : cz_I} {R0 : cz_R} {L0 : cz_L} {d : Int} (hW0 : Wf T cn K N I0 R0 d) {a0 : Nat} (ta0 : T a0 = 15) {x1 : Int32} : ConE l mX12_by [.ref a0, .int x1] cn K N I0 R0 L0 (ca_i (fun v cn' K' N' I' R' L' => cn = cn' ∧ K = K' ∧ N = N' ∧ R0 = R' ∧ L0 = L' ∧ St T cn K N d wi_X12_by wr_X12_by I0 R0 I' R0 ∧ True)) := by
  refine ConE.of (by decide +kernel) rfl (Nat.le_of_ble_eq_true rfl) rfl (fun X hX hZ hE => ?_)
  subst hX
  have hS0 : St T cn K N d wi_X12_by wr_X12_by I0 R0 I0 R0 := St.rf0 hW0
  rcases rf15_3 hW0 ta0 with d2 | ⟨a1, d2, ta1⟩
  · skip
    refine tr_aload_n dX12_by_0 rfl ?_
    refine q_iconst dX12_by_1 (by decide) ?_
    intro v3 h4
    refine q_putI dX12_by_2 fl12_70 (kR15 hS0.1 ta0) (Or.inl rfl) hS0 ta0 (iokF rfl) rfl (by decide +kernel) ?_
    intro I5 hS6 e7 f8
    refine tr_aload_n dX12_by_5 rfl ?_
    refine tr_iload_n dX12_by_6 rfl ?_
    refine q_callVi hE (M' := mX12_isSlice) (as := [_]) dX12_by_7 lk12_485 inX12_isSlice seX12_isSlice myX12_isSlice (by decide) ⟨by decide, by decide⟩ rfl (kR15 hS6.1 ta0) (Nat.le_of_ble_eq_true rfl) rfl rfl (by decide) (by decide) (k_X12_isSlice hS6.1 ta0) ?_
    rintro v13 cn' K' N' I9 R10 L11 ⟨rfl, rfl, rfl, rfl, rfl, rfl, h14, p15, p16, -⟩
    have p17 := p15
    have p18 := (p16 d2)
    refine q_if_ne 19 dX12_by_10 (by decide) (fun h19 => ?_) (fun h19 => ?_)
    · skip
      exfalso; omega
    · skip
      refine tr_aload_n dX12_by_13 rfl ?_
      refine q_iconst dX12_by_14 (by decide) ?_
      intro v20 h21
      refine q_callVi hE (M' := mX12_refused) (as := [_]) dX12_by_15 lk12_76 inX12_refused seX12_refused myX12_refused (by decide) ⟨by decide, by decide⟩ rfl (kR15 hS6.1 ta0) (Nat.le_of_ble_eq_true rfl) rfl rfl (by decide) (by decide) (k_X12_refused hS6.1 ta0) ?_
      rintro v26 cn' K' N' I22 R23 L24 ⟨rfl, rfl, rfl, rfl, rfl, g25, -⟩
      have hS27 := hS6.tr g25 (by decide +kernel) (by decide +kernel)
      have c28 : I22 a0 0 = v3 := (g25.cell ta0 (by decide +kernel)).trans e7
      exact tr_iret hZ dX12_by_18 rfl (by decide) (by decide) ⟨v26, rfl, rfl, rfl, rfl, rfl, rfl, hS27, trivial⟩
  · skip
    refine tr_aload_n dX12_by_0 rfl ?_
    refine q_iconst dX12_by_1 (by decide) ?_
    intro v29 h30
    refine q_putI dX12_by_2 fl12_70 (kR15 hS0.1 ta0) (Or.inl rfl) hS0 ta0 (iokF rfl) rfl (by decide +kernel) ?_
    intro I31 hS32 e33 f34
    refine tr_aload_n dX12_by_5 rfl ?_
    refine tr_iload_n dX12_by_6 rfl ?_
    refine q_callVi hE (M' := mX12_isSlice) (as := [_]) dX12_by_7 lk12_485 inX12_isSlice seX12_isSlice myX12_isSlice (by decide) ⟨by decide, by decide⟩ rfl (kR15 hS32.1 ta0) (Nat.le_of_ble_eq_true rfl) rfl rfl (by decide) (by decide) (k_X12_isSlice hS32.1 ta0) ?_
    rintro v39 cn' K' N' I35 R36 L37 ⟨rfl, rfl, rfl, rfl, rfl, rfl, h40, p41, p42, -⟩
    have p43 := p41
    refine q_if_ne 19 dX12_by_10 (by decide) (fun h44 => ?_) (fun h44 => ?_)
    · skip
      refine tr_aload_n dX12_by_19 rfl ?_
      refine q_iconst dX12_by_20 (by decide) ?_
      intro v45 h46
      refine q_callVv hE (M' := mX12_laysLight) (as := [_]) dX12_by_21 lk12_434 inX12_laysLight seX12_laysLight myX12_laysLight (by decide) ⟨by decide, by decide⟩ rfl (kR15 hS32.1 ta0) (Nat.le_of_ble_eq_true rfl) rfl rfl (by decide) (by decide) (k_X12_laysLight hS32.1 ta0 ⟨_, d2⟩) ?_
      rintro cn' K' N' I47 R48 L49 ⟨rfl, rfl, rfl, rfl, rfl, g50, -⟩
      have hS52 := hS32.tr g50 (by decide +kernel) (by decide +kernel)
      have c53 : I47 a0 0 = v29 := (g50.cell ta0 (by decide +kernel)).trans e33
      refine q_bipush dX12_by_24 (by decide +kernel) ?_
      intro v54 h55
      refine tr_istore_n dX12_by_26 (by decide) (by decide) ?_
      refine q_iconst dX12_by_27 (by decide) ?_
      intro v56 h57
      refine tr_istore_n dX12_by_28 (by decide) (by decide) ?_
      have lp67 : ∀ (fu : Nat) (ls : Nat → Option Value) (v58 : Int32) (v59 : Int32) (I64 : cz_I), ls 0 = some (.ref a0) → ls 1 = some (.int x1) → ls 2 = some (.int v58) → ls 3 = some (.int v59) → St T cn K N d wi_X12_by wr_X12_by I0 R0 I64 R0 → 0 ≤ v59.toInt → (-v59.toInt + 2147483647).toNat < fu → Tr X mX12_by 29 ls [] cn K N I64 R0 L0 0 0 := by
        intro fu
        induction fu with
        | zero => intros; rename_i hz; exact absurd hz (Nat.not_lt_zero _)
        | succ fu ih67 =>
          intro ls v58 v59 I64 hl60 hl61 hl62 hl63 hS65 g66 hm67
          refine tr_iload_n dX12_by_29 hl63 ?_
          refine q_iconst dX12_by_30 (by decide) ?_
          intro v69 h70
          refine tr_aload_n dX12_by_31 hl60 ?_
          refine tr_getR dX12_by_32 fl12_385 (kR15 hS65.1 ta0) d2 ?_
          obtain ⟨v71, c72⟩ : ∃ v, I0 a1 5 = v := ⟨_, rfl⟩
          have b73 := iv14_5 hW0 ta1 c72
          refine q_getI dX12_by_35 fl12_349 (kR14 hS65.1 ta1) ((hS65.cell ta1 (by decide +kernel)).trans c72) ?_
          refine q_ishlE dX12_by_38 (by omega) (by omega) ?_
          intro v74 h75
          refine q_icmp_ge 88 dX12_by_39 (by decide) (fun h76 => ?_) (fun h76 => ?_)
          · skip
            refine tr_aload_n dX12_by_88 hl60 ?_
            refine tr_iload_n dX12_by_89 hl62 ?_
            refine q_callVi hE (M' := mX12_good) (as := [_]) dX12_by_90 lk12_81 inX12_good seX12_good myX12_good (by decide) ⟨by decide, by decide⟩ rfl (kR15 hS65.1 ta0) (Nat.le_of_ble_eq_true rfl) rfl rfl (by decide) (by decide) (k_X12_good hS65.1 ta0) ?_
            rintro v81 cn' K' N' I77 R78 L79 ⟨rfl, rfl, rfl, rfl, rfl, g80, -⟩
            have hS82 := hS65.tr g80 (by decide +kernel) (by decide +kernel)
            exact tr_iret hZ dX12_by_93 rfl (by decide) (by decide) ⟨v81, rfl, rfl, rfl, rfl, rfl, rfl, hS82, trivial⟩
          · skip
            refine tr_iload_n dX12_by_42 hl62 ?_
            refine q_bipush dX12_by_43 (by decide +kernel) ?_
            intro v83 h84
            refine q_icmp_eq 62 dX12_by_45 (by decide) (fun h85 => ?_) (fun h85 => ?_)
            · skip
              refine tr_aload_n dX12_by_62 hl60 ?_
              refine tr_aload_n dX12_by_63 hl60 ?_
              refine q_callVi hE (M' := mX12_everybody) (as := []) dX12_by_64 lk12_437 inX12_everybody seX12_everybody myX12_everybody (by decide) ⟨by decide, by decide⟩ rfl (kR15 hS65.1 ta0) (Nat.le_of_ble_eq_true rfl) rfl rfl (by decide) (by decide) (k_X12_everybody hS65.1 ta0 ⟨_, d2⟩) ?_
              rintro v90 cn' K' N' I86 R87 L88 ⟨rfl, rfl, rfl, rfl, rfl, rfl, h91, -⟩
              refine tr_iload_n dX12_by_67 hl63 ?_
              refine q_callVi hE (M' := mX12_goes) (as := [_, _]) dX12_by_68 lk12_440 inX12_goes seX12_goes myX12_goes (by decide) ⟨by decide, by decide⟩ rfl (kR15 hS65.1 ta0) (Nat.le_of_ble_eq_true rfl) rfl rfl (by decide) (by decide) (k_X12_goes hS65.1 ta0 ⟨_, d2⟩) ?_
              rintro v96 cn' K' N' I92 R93 L94 ⟨rfl, rfl, rfl, rfl, rfl, g95, -⟩
              have hS97 := hS65.tr g95 (by decide +kernel) (by decide +kernel)
              refine tr_pop dX12_by_71 rfl ?_
              refine tr_aload_n dX12_by_72 hl60 ?_
              refine tr_iload_n dX12_by_73 hl61 ?_
              refine q_callVi hE (M' := mX12_fitsNow) (as := [_]) dX12_by_74 lk12_488 inX12_fitsNow seX12_fitsNow myX12_fitsNow (by decide) ⟨by decide, by decide⟩ rfl (kR15 hS97.1 ta0) (Nat.le_of_ble_eq_true rfl) rfl rfl (by decide) (by decide) (k_X12_fitsNow hS97.1 ta0 (by omega) ⟨_, d2⟩) ?_
              rintro v102 cn' K' N' I98 R99 L100 ⟨rfl, rfl, rfl, rfl, rfl, rfl, -⟩
              refine q_if_eq 82 dX12_by_77 (by decide) (fun h103 => ?_) (fun h103 => ?_)
              · skip
                refine q_iincE dX12_by_82 hl63 (by decide) (by decide) (by intros; omega) ?_
                intro v104 h105
                refine tr_goto 29 dX12_by_85 (by decide) ?_
                exact ih67 _ v58 v104 I92 hl60 hl61 hl62 rfl hS97 (by omega) (by omega)
              · skip
                refine tr_iload_n dX12_by_80 hl63 ?_
                refine tr_istore_n dX12_by_81 (by decide) (by decide) ?_
                refine q_iincE dX12_by_82 hl63 (by decide) (by decide) (by intros; omega) ?_
                intro v106 h107
                refine tr_goto 29 dX12_by_85 (by decide) ?_
                exact ih67 _ v59 v106 I92 hl60 hl61 rfl rfl hS97 (by omega) (by omega)
            · skip
              refine tr_iload_n dX12_by_48 hl63 ?_
              refine q_callSi hE (M' := mX12_bits) (as := [_]) dX12_by_49 lk12_473 inX12_bits myX12_bits ⟨by decide, by decide⟩ rfl (Nat.le_of_ble_eq_true rfl) rfl rfl (by decide) (by decide) (k_X12_bits hS65.1 ) ?_
              rintro v112 cn' K' N' I108 R109 L110 ⟨rfl, rfl, rfl, rfl, rfl, rfl, -⟩
              refine tr_iload_n dX12_by_52 hl62 ?_
              refine q_callSi hE (M' := mX12_bits) (as := [_]) dX12_by_53 lk12_473 inX12_bits myX12_bits ⟨by decide, by decide⟩ rfl (Nat.le_of_ble_eq_true rfl) rfl rfl (by decide) (by decide) (k_X12_bits hS65.1 ) ?_
              rintro v117 cn' K' N' I113 R114 L115 ⟨rfl, rfl, rfl, rfl, rfl, rfl, -⟩
              refine q_icmp_lt 62 dX12_by_56 (by decide) (fun h118 => ?_) (fun h118 => ?_)
              · skip
                refine tr_aload_n dX12_by_62 hl60 ?_
                refine tr_aload_n dX12_by_63 hl60 ?_
                refine q_callVi hE (M' := mX12_everybody) (as := []) dX12_by_64 lk12_437 inX12_everybody seX12_everybody myX12_everybody (by decide) ⟨by decide, by decide⟩ rfl (kR15 hS65.1 ta0) (Nat.le_of_ble_eq_true rfl) rfl rfl (by decide) (by decide) (k_X12_everybody hS65.1 ta0 ⟨_, d2⟩) ?_
                rintro v123 cn' K' N' I119 R120 L121 ⟨rfl, rfl, rfl, rfl, rfl, rfl, h124, -⟩
                refine tr_iload_n dX12_by_67 hl63 ?_
                refine q_callVi hE (M' := mX12_goes) (as := [_, _]) dX12_by_68 lk12_440 inX12_goes seX12_goes myX12_goes (by decide) ⟨by decide, by decide⟩ rfl (kR15 hS65.1 ta0) (Nat.le_of_ble_eq_true rfl) rfl rfl (by decide) (by decide) (k_X12_goes hS65.1 ta0 ⟨_, d2⟩) ?_
                rintro v129 cn' K' N' I125 R126 L127 ⟨rfl, rfl, rfl, rfl, rfl, g128, -⟩
                have hS130 := hS65.tr g128 (by decide +kernel) (by decide +kernel)
                refine tr_pop dX12_by_71 rfl ?_
                refine tr_aload_n dX12_by_72 hl60 ?_
                refine tr_iload_n dX12_by_73 hl61 ?_
                refine q_callVi hE (M' := mX12_fitsNow) (as := [_]) dX12_by_74 lk12_488 inX12_fitsNow seX12_fitsNow myX12_fitsNow (by decide) ⟨by decide, by decide⟩ rfl (kR15 hS130.1 ta0) (Nat.le_of_ble_eq_true rfl) rfl rfl (by decide) (by decide) (k_X12_fitsNow hS130.1 ta0 (by omega) ⟨_, d2⟩) ?_
                rintro v135 cn' K' N' I131 R132 L133 ⟨rfl, rfl, rfl, rfl, rfl, rfl, -⟩
                refine q_if_eq 82 dX12_by_77 (by decide) (fun h136 => ?_) (fun h136 => ?_)
                · skip
                  refine q_iincE dX12_by_82 hl63 (by decide) (by decide) (by intros; omega) ?_
                  intro v137 h138
                  refine tr_goto 29 dX12_by_85 (by decide) ?_
                  exact ih67 _ v58 v137 I125 hl60 hl61 hl62 rfl hS130 (by omega) (by omega)
                · skip
                  refine tr_iload_n dX12_by_80 hl63 ?_
                  refine tr_istore_n dX12_by_81 (by decide) (by decide) ?_
                  refine q_iincE dX12_by_82 hl63 (by decide) (by decide) (by intros; omega) ?_
                  intro v139 h140
                  refine tr_goto 29 dX12_by_85 (by decide) ?_
                  exact ih67 _ v59 v139 I125 hl60 hl61 rfl rfl hS130 (by omega) (by omega)
              · skip
                refine tr_goto 82 dX12_by_59 (by decide) ?_
                refine q_iincE dX12_by_82 hl63 (by decide) (by decide) (by intros; omega) ?_
                intro v141 h142
                refine tr_goto 29 dX12_by_85 (by decide) ?_
                exact ih67 _ v58 v141 I64 hl60 hl61 hl62 rfl hS65 (by omega) (by omega)
      exact lp67 _ _ v54 v56 I47 rfl rfl rfl rfl hS52 (by omega) (Nat.lt_succ_self _)
    · skip
      refine tr_aload_n dX12_by_13 rfl ?_
      refine q_iconst dX12_by_14 (by decide) ?_
      intro v143 h144
      refine q_callVi hE (M' := mX12_refused) (as := [_]) dX12_by_15 lk12_76 inX12_refused seX12_refused myX12_refused (by decide) ⟨by decide, by decide⟩ rfl (kR15 hS32.1 ta0) (Nat.le_of_ble_eq_true rfl) rfl rfl (by decide) (by decide) (k_X12_refused hS32.1 ta0) ?_
      rintro v149 cn' K' N' I145 R146 L147 ⟨rfl, rfl, rfl, rfl, rfl, g148, -⟩
      have hS150 := hS32.tr g148 (by decide +kernel) (by decide +kernel)
      have c151 : I145 a0 0 = v29 := (g148.cell ta0 (by decide +kernel)).trans e33
      exact tr_iret hZ dX12_by_18 rfl (by decide) (by decide) ⟨v149, rfl, rfl, rfl, rfl, rfl, rfl, hS150, trivial⟩
def wi_X12_drawOf : List Nat := [4991]
def wr_X12_drawOf : List Nat := []
set_option maxHeartbeats 4000000 in
theorem k_X12_drawOf {l : Launch} {T : Nat → Nat} {cn : Nat} {K N : Nat → Nat} {I0 : cz_I} {R0 : cz_R} {L0 : cz_L} {d : Int} (hW0 : Wf T cn K N I0 R0 d) {a0 : Nat} (ta0 : T a0 = 15) {x1 : Int32} (hx1 : 1 ≤ x1.toInt ∧ x1.toInt ≤ 240) : ConE l mX12_drawOf [.ref a0, .int x1] cn K N I0 R0 L0 (ca_i (fun v cn' K' N' I' R' L' => cn = cn' ∧ K = K' ∧ N = N' ∧ R0 = R' ∧ L0 = L' ∧ St T cn K N d wi_X12_drawOf wr_X12_drawOf I0 R0 I' R0 ∧ (0 ≤ v.toInt ∧ v.toInt ≤ 239) ∧ (v.toInt < x1.toInt) ∧ (∀ b1, R0 a0 16 = some b1 → (I' b1 1).toInt = (I0 b1 1).toInt) ∧ True)) := by
  refine ConE.of (by decide +kernel) rfl (Nat.le_of_ble_eq_true rfl) rfl (fun X hX hZ hE => ?_)
  subst hX
  have hS0 : St T cn K N d wi_X12_drawOf wr_X12_drawOf I0 R0 I0 R0 := St.rf0 hW0
  obtain ⟨a1, d2, ta1⟩ := rf15_16 hW0 ta0
  obtain ⟨v3, c4⟩ : ∃ v, I0 a1 1 = v := ⟨_, rfl⟩
  have b5 := iv77_1 hS0.1 ta1 (by decide) c4
  refine tr_aload_n dX12_drawOf_0 rfl ?_
  refine tr_getR dX12_drawOf_1 fl12_17 (kR15 hS0.1 ta0) d2 ?_
  refine q_iconst dX12_drawOf_4 (by decide) ?_
  intro v6 h7
  refine q_ldc2E 75 dX12_drawOf_5 ld12_491 (by decide +kernel) ?_
  intro y8 h9
  refine tr_aload_n dX12_drawOf_8 rfl ?_
  refine tr_getR dX12_drawOf_9 fl12_17 (kR15 hS0.1 ta0) d2 ?_
  refine q_iconst dX12_drawOf_12 (by decide) ?_
  intro v10 h11
  obtain ⟨v12, c13⟩ : ∃ v, I0 a1 2 = v := ⟨_, rfl⟩
  have b14 := iv77_2 hS0.1 ta1 (by decide) c13
  refine q_iald dX12_drawOf_13 (kR77 hS0.1 ta1) (ti_in (nR77 hS0.1 ta1) (by omega) (by omega)) ?_
  intro v15 c16
  rw [show v10.toNatClampNeg = 2 from ti_cl (by omega)] at c16
  obtain rfl : v12 = v15 := (c13).symm.trans c16
  refine q_i2lE dX12_drawOf_14 ?_
  intro y17 h18
  refine q_lmulE (c := 75) dX12_drawOf_15 (by omega) (by omega) ?_
  intro y19 h20
  refine q_ldc2E 74 dX12_drawOf_16 ld12_493 (by decide +kernel) ?_
  intro y21 h22
  refine q_laddE dX12_drawOf_19 (by omega) ?_
  intro y23 h24
  refine q_ldc2E 65537 dX12_drawOf_20 ld12_495 (by decide +kernel) ?_
  intro y25 h26
  refine q_lremE dX12_drawOf_23 (by omega) ?_
  intro y27 h28
  refine q_l2iE dX12_drawOf_24 (by omega) ?_
  intro v29 h30
  refine q_iast dX12_drawOf_25 (kR77 hS0.1 ta1) (ti_in (nR77 hS0.1 ta1) (by omega) (by omega)) hS0 ta1 (iok_w2 rfl (by have q := ti_nat (i := v6) (by omega); omega) (by omega)) rfl (by rfl) ?_
  intro I31 hS32 e34 f33
  have c35 : I31 a1 1 = v3 := (f33 _ _ (fun q => by have z := ti_nat (i := v6) (by omega); omega)).trans c4
  rw [show v6.toNatClampNeg = 2 from ti_cl (by omega)] at e34
  refine tr_aload_n dX12_drawOf_26 rfl ?_
  refine tr_getR dX12_drawOf_27 fl12_17 (kR15 hS32.1 ta0) d2 ?_
  refine q_iconst dX12_drawOf_30 (by decide) ?_
  intro v36 h37
  refine q_iald dX12_drawOf_31 (kR77 hS32.1 ta1) (ti_in (nR77 hS32.1 ta1) (by omega) (by omega)) ?_
  intro v38 c39
  rw [show v36.toNatClampNeg = 2 from ti_cl (by omega)] at c39
  obtain rfl : v29 = v38 := (e34).symm.trans c39
  refine tr_iload_n dX12_drawOf_32 rfl ?_
  refine q_iremE dX12_drawOf_33 (by omega) ?_
  intro v40 h41
  exact tr_iret hZ dX12_drawOf_34 rfl (by decide) (by decide) ⟨v40, rfl, rfl, rfl, rfl, rfl, rfl, hS32, (by omega), (by omega), (fun q0 z0 => by obtain rfl := Option.some.inj ((d2).symm.trans z0); (try rw [c35]); (try rw [c4]); (try omega)), trivial⟩
def wi_X12_comes : List Nat := [4991]
def wr_X12_comes : List Nat := []
set_option maxHeartbeats 4000000 in
theorem k_X12_comes {l : Launch} {T : Nat → Nat} {cn : Nat} {K N : Nat → Nat} {I0 : cz_I} {R0 : cz_R} {L0 : cz_L} {d : Int} (hW0 : Wf T cn K N I0 R0 d) {a0 : Nat} (ta0 : T a0 = 15) {x1 : Int32} (hx1 : 0 ≤ x1.toInt ∧ x1.toInt ≤ 240) {x2 : Int32} (hx2 : 0 ≤ x2.toInt ∧ x2.toInt ≤ 240) (pre0 : ∀ b1, R0 a0 16 = some b1 → (I0 b1 1).toInt ≤ 5) : ConE l mX12_comes [.ref a0, .int x1, .int x2] cn K N I0 R0 L0 (ca_v (fun cn' K' N' I' R' L' => cn = cn' ∧ K = K' ∧ N = N' ∧ R0 = R' ∧ L0 = L' ∧ St T cn K N d wi_X12_comes wr_X12_comes I0 R0 I' R0 ∧ (∀ b1, R0 a0 16 = some b1 → (I' b1 1).toInt = (I0 b1 1).toInt + 1) ∧ True)) := by
  refine ConE.of (by decide +kernel) rfl (Nat.le_of_ble_eq_true rfl) rfl (fun X hX hZ hE => ?_)
  subst hX
  have hS0 : St T cn K N d wi_X12_comes wr_X12_comes I0 R0 I0 R0 := St.rf0 hW0
  obtain ⟨a1, d2, ta1⟩ := rf15_16 hW0 ta0
  obtain ⟨v3, c4⟩ : ∃ v, I0 a1 1 = v := ⟨_, rfl⟩
  have b5 := iv77_1 hS0.1 ta1 (by decide) c4
  have p6 := pre0 _ d2
  rw [c4] at p6
  refine tr_aload_n dX12_comes_0 rfl ?_
  refine tr_getR dX12_comes_1 fl12_17 (kR15 hS0.1 ta0) d2 ?_
  refine q_iconst dX12_comes_4 (by decide) ?_
  intro v7 h8
  refine tr_aload_n dX12_comes_5 rfl ?_
  refine tr_getR dX12_comes_6 fl12_17 (kR15 hS0.1 ta0) d2 ?_
  refine q_iconst dX12_comes_9 (by decide) ?_
  intro v9 h10
  refine q_iald dX12_comes_10 (kR77 hS0.1 ta1) (ti_in (nR77 hS0.1 ta1) (by omega) (by omega)) ?_
  intro v11 c12
  rw [show v9.toNatClampNeg = 1 from ti_cl (by omega)] at c12
  obtain rfl : v3 = v11 := (c4).symm.trans c12
  refine q_iaddE dX12_comes_11 (by intros; omega) ?_
  intro v13 h14
  refine tr_iload_n dX12_comes_12 rfl ?_
  refine q_iast dX12_comes_13 (kR77 hS0.1 ta1) (ti_in (nR77 hS0.1 ta1) (by omega) (by omega)) hS0 ta1 (iok_w3 rfl (by have q := ti_nat (i := v13) (by omega); omega) (by omega)) rfl (by rfl) ?_
  intro I15 hS16 e18 f17
  have c19 : I15 a1 1 = v3 := (f17 _ _ (fun q => by have z := ti_nat (i := v13) (by omega); omega)).trans c4
  refine tr_aload_n dX12_comes_14 rfl ?_
  refine tr_getR dX12_comes_15 fl12_17 (kR15 hS16.1 ta0) d2 ?_
  refine q_bipush dX12_comes_18 (by decide +kernel) ?_
  intro v20 h21
  refine tr_aload_n dX12_comes_20 rfl ?_
  refine tr_getR dX12_comes_21 fl12_17 (kR15 hS16.1 ta0) d2 ?_
  refine q_iconst dX12_comes_24 (by decide) ?_
  intro v22 h23
  refine q_iald dX12_comes_25 (kR77 hS16.1 ta1) (ti_in (nR77 hS16.1 ta1) (by omega) (by omega)) ?_
  intro v24 c25
  rw [show v22.toNatClampNeg = 1 from ti_cl (by omega)] at c25
  obtain rfl : v3 = v24 := (c19).symm.trans c25
  refine q_iaddE dX12_comes_26 (by intros; omega) ?_
  intro v26 h27
  refine tr_iload_n dX12_comes_27 rfl ?_
  refine q_iast dX12_comes_28 (kR77 hS16.1 ta1) (ti_in (nR77 hS16.1 ta1) (by omega) (by omega)) hS16 ta1 (iok_w3 rfl (by have q := ti_nat (i := v26) (by omega); omega) (by omega)) rfl (by rfl) ?_
  intro I28 hS29 e31 f30
  have c32 : I28 a1 1 = v3 := (f30 _ _ (fun q => by have z := ti_nat (i := v26) (by omega); omega)).trans c19
  refine tr_aload_n dX12_comes_29 rfl ?_
  refine tr_getR dX12_comes_30 fl12_17 (kR15 hS29.1 ta0) d2 ?_
  refine q_iconst dX12_comes_33 (by decide) ?_
  intro v33 h34
  refine tr_dup2 dX12_comes_34 rfl rfl ?_
  refine q_iald dX12_comes_35 (kR77 hS29.1 ta1) (ti_in (nR77 hS29.1 ta1) (by omega) (by omega)) ?_
  intro v35 c36
  rw [show v33.toNatClampNeg = 1 from ti_cl (by omega)] at c36
  obtain rfl : v3 = v35 := (c32).symm.trans c36
  refine q_iconst dX12_comes_36 (by decide) ?_
  intro v37 h38
  refine q_iaddE dX12_comes_37 (by intros; omega) ?_
  intro v39 h40
  refine q_iast dX12_comes_38 (kR77 hS29.1 ta1) (ti_in (nR77 hS29.1 ta1) (by omega) (by omega)) hS29 ta1 (iok_w1 rfl (by have q := ti_nat (i := v33) (by omega); omega) (by omega)) rfl (by rfl) ?_
  intro I41 hS42 e44 f43
  rw [show v33.toNatClampNeg = 1 from ti_cl (by omega)] at e44
  exact tr_vret hZ dX12_comes_39 rfl (by decide) (by decide) ⟨rfl, rfl, rfl, rfl, rfl, rfl, hS42, (fun q0 z0 => by obtain rfl := Option.some.inj ((d2).symm.trans z0); (try rw [e44]); (try rw [c4]); (try omega)), trivial⟩
def wi_X12_draws : List Nat := [4991]
def wr_X12_draws : List Nat := []
set_option maxHeartbeats 4000000 in
theorem k_X12_draws {l : Launch} {T : Nat → Nat} {cn : Nat} {K N : Nat → Nat} {I0 : cz_I} {R0 : cz_R} {L0 : cz_L} {d : Int} (hW0 : Wf T cn K N I0 R0 d) {a0 : Nat} (ta0 : T a0 = 15) (pre0 : ∀ b1, R0 a0 16 = some b1 → (I0 b1 1).toInt ≤ 5) (nn3 : ∃ b, R0 a0 3 = some b) : ConE l mX12_draws [.ref a0] cn K N I0 R0 L0 (ca_i (fun v cn' K' N' I' R' L' => cn = cn' ∧ K = K' ∧ N = N' ∧ R0 = R' ∧ L0 = L' ∧ St T cn K N d wi_X12_draws wr_X12_draws I0 R0 I' R0 ∧ (0 ≤ v.toInt ∧ v.toInt ≤ 239) ∧ (∀ b1, R0 a0 16 = some b1 → (I' b1 1).toInt = (I0 b1 1).toInt + 1) ∧ True)) := by
  refine ConE.of (by decide +kernel) rfl (Nat.le_of_ble_eq_true rfl) rfl (fun X hX hZ hE => ?_)
  subst hX
  have hS0 : St T cn K N d wi_X12_draws wr_X12_draws I0 R0 I0 R0 := St.rf0 hW0
  obtain ⟨a1, d2⟩ := nn3
  have ta1 : T a1 = 14 := hW0.rsN ta0 rfl d2
  obtain ⟨a3, d4, ta3⟩ := rf15_16 hW0 ta0
  obtain ⟨v5, c6⟩ : ∃ v, I0 a3 1 = v := ⟨_, rfl⟩
  have b7 := iv77_1 hS0.1 ta3 (by decide) c6
  have p8 := pre0 _ d4
  rw [c6] at p8
  refine tr_aload_n dX12_draws_0 rfl ?_
  refine tr_aload_n dX12_draws_1 rfl ?_
  refine tr_getR dX12_draws_2 fl12_385 (kR15 hS0.1 ta0) d2 ?_
  obtain ⟨v9, c10⟩ : ∃ v, I0 a1 0 = v := ⟨_, rfl⟩
  have b11 := hW0.2.2.2.2.2.1 a0 ta0 _ d2
  rw [c10] at b11
  have b12 := iv14_0 hW0 ta1 c10
  refine q_getI dX12_draws_5 fl12_192 (kR14 hS0.1 ta1) c10 ?_
  refine q_callVi hE (M' := mX12_drawOf) (as := [_]) dX12_draws_8 lk12_497 inX12_drawOf seX12_drawOf myX12_drawOf (by decide) ⟨by decide, by decide⟩ rfl (kR15 hS0.1 ta0) (Nat.le_of_ble_eq_true rfl) rfl rfl (by decide) (by decide) (k_X12_drawOf hS0.1 ta0 (by omega)) ?_
  rintro v17 cn' K' N' I13 R14 L15 ⟨rfl, rfl, rfl, rfl, rfl, g16, h18, p19, p20, -⟩
  have hS21 := hS0.tr g16 (by decide +kernel) (by decide +kernel)
  have p22 := p19
  obtain ⟨v23, c24⟩ : ∃ v, I13 a3 1 = v := ⟨_, rfl⟩
  have b25 := iv77_1 hS21.1 ta3 (by decide) c24
  have p26 := p20 _ d4
  rw [c24] at p26
  rw [c6] at p26
  refine tr_istore_n dX12_draws_11 (by decide) (by decide) ?_
  refine tr_iload_n dX12_draws_12 rfl ?_
  refine q_iconst dX12_draws_13 (by decide) ?_
  intro v27 h28
  refine q_iaddE dX12_draws_14 (by intros; omega) ?_
  intro v29 h30
  refine tr_aload_n dX12_draws_15 rfl ?_
  refine q_bipush dX12_draws_16 (by decide +kernel) ?_
  intro v31 h32
  refine q_callVi hE (M' := mX12_drawOf) (as := [_]) dX12_draws_18 lk12_497 inX12_drawOf seX12_drawOf myX12_drawOf (by decide) ⟨by decide, by decide⟩ rfl (kR15 hS21.1 ta0) (Nat.le_of_ble_eq_true rfl) rfl rfl (by decide) (by decide) (k_X12_drawOf hS21.1 ta0 (by omega)) ?_
  rintro v37 cn' K' N' I33 R34 L35 ⟨rfl, rfl, rfl, rfl, rfl, g36, h38, p39, p40, -⟩
  have hS41 := hS21.tr g36 (by decide +kernel) (by decide +kernel)
  have p42 := p39
  obtain ⟨v43, c44⟩ : ∃ v, I33 a3 1 = v := ⟨_, rfl⟩
  have b45 := iv77_1 hS41.1 ta3 (by decide) c44
  have p46 := p40 _ d4
  rw [c44] at p46
  rw [c24] at p46
  refine q_iaddE dX12_draws_21 (by intros; omega) ?_
  intro v47 h48
  refine tr_istore_n dX12_draws_22 (by decide) (by decide) ?_
  refine tr_aload_n dX12_draws_23 rfl ?_
  refine tr_iload_n dX12_draws_24 rfl ?_
  refine tr_iload_n dX12_draws_25 rfl ?_
  refine tr_aload_n dX12_draws_26 rfl ?_
  refine tr_getR dX12_draws_27 fl12_385 (kR15 hS41.1 ta0) d2 ?_
  refine q_getI dX12_draws_30 fl12_192 (kR14 hS41.1 ta1) ((hS41.cell ta1 (by decide +kernel)).trans c10) ?_
  refine q_icmp_ge 40 dX12_draws_33 (by decide) (fun h49 => ?_) (fun h49 => ?_)
  · skip
    refine tr_aload_n dX12_draws_40 rfl ?_
    refine tr_getR dX12_draws_41 fl12_385 (kR15 hS41.1 ta0) d2 ?_
    refine q_getI dX12_draws_44 fl12_192 (kR14 hS41.1 ta1) ((hS41.cell ta1 (by decide +kernel)).trans c10) ?_
    refine q_callVv hE (M' := mX12_comes) (as := [_, _]) dX12_draws_47 lk12_500 inX12_comes seX12_comes myX12_comes (by decide) ⟨by decide, by decide⟩ rfl (kR15 hS41.1 ta0) (Nat.le_of_ble_eq_true rfl) rfl rfl (by decide) (by decide) (k_X12_comes hS41.1 ta0 (by omega) (by omega) (fun q0 z0 => by obtain rfl := Option.some.inj ((d4).symm.trans z0); (try rw [c44]); (try omega))) ?_
    rintro cn' K' N' I50 R51 L52 ⟨rfl, rfl, rfl, rfl, rfl, g53, p55, -⟩
    have hS56 := hS41.tr g53 (by decide +kernel) (by decide +kernel)
    obtain ⟨v57, c58⟩ : ∃ v, I50 a3 1 = v := ⟨_, rfl⟩
    have b59 := iv77_1 hS56.1 ta3 (by decide) c58
    have p60 := p55 _ d4
    rw [c58] at p60
    rw [c44] at p60
    refine tr_iload_n dX12_draws_50 rfl ?_
    exact tr_iret hZ dX12_draws_51 rfl (by decide) (by decide) ⟨v17, rfl, rfl, rfl, rfl, rfl, rfl, hS56, (by omega), (fun q0 z0 => by obtain rfl := Option.some.inj ((d4).symm.trans z0); (try rw [c58]); (try rw [c6]); (try omega)), trivial⟩
  · skip
    refine tr_iload_n dX12_draws_36 rfl ?_
    refine tr_goto 47 dX12_draws_37 (by decide) ?_
    refine q_callVv hE (M' := mX12_comes) (as := [_, _]) dX12_draws_47 lk12_500 inX12_comes seX12_comes myX12_comes (by decide) ⟨by decide, by decide⟩ rfl (kR15 hS41.1 ta0) (Nat.le_of_ble_eq_true rfl) rfl rfl (by decide) (by decide) (k_X12_comes hS41.1 ta0 (by omega) (by omega) (fun q0 z0 => by obtain rfl := Option.some.inj ((d4).symm.trans z0); (try rw [c44]); (try omega))) ?_
    rintro cn' K' N' I61 R62 L63 ⟨rfl, rfl, rfl, rfl, rfl, g64, p66, -⟩
    have hS67 := hS41.tr g64 (by decide +kernel) (by decide +kernel)
    obtain ⟨v68, c69⟩ : ∃ v, I61 a3 1 = v := ⟨_, rfl⟩
    have b70 := iv77_1 hS67.1 ta3 (by decide) c69
    have p71 := p66 _ d4
    rw [c69] at p71
    rw [c44] at p71
    refine tr_iload_n dX12_draws_50 rfl ?_
    exact tr_iret hZ dX12_draws_51 rfl (by decide) (by decide) ⟨v17, rfl, rfl, rfl, rfl, rfl, rfl, hS67, (by omega), (fun q0 z0 => by obtain rfl := Option.some.inj ((d4).symm.trans z0); (try rw [c69]); (try rw [c6]); (try omega)), trivial⟩
def wi_X12_nights : List Nat := [960, 961, 962, 4991, 5183, 5247, 5311, 5375, 5439, 5503, 5567, 5631, 5695, 5759, 5823, 5887, 5951, 6015]
def wr_X12_nights : List Nat := []
set_option maxHeartbeats 4000000 in
theorem k_X12_nights {l : Launch} {T : Nat → Nat} {cn : Nat} {K N : Nat → Nat} {I0 : cz_I} {R0 : cz_R} {L0 : cz_L} {d : Int} (hW0 : Wf T cn K N I0 R0 d) {a0 : Nat} (ta0 : T a0 = 15) {x1 : Int32} {x2 : Int32} {x3 : Int32} : ConE l mX12_nights [.ref a0, .int x1, .int x2, .int x3] cn K N I0 R0 L0 (ca_i (fun v cn' K' N' I' R' L' => cn = cn' ∧ K = K' ∧ N = N' ∧ R0 = R' ∧ L0 = L' ∧ St T cn K N d wi_X12_nights wr_X12_nights I0 R0 I' R0 ∧ True)) := by
  refine ConE.of (by decide +kernel) rfl (Nat.le_of_ble_eq_true rfl) rfl (fun X hX hZ hE => ?_)
  subst hX
  have hS0 : St T cn K N d wi_X12_nights wr_X12_nights I0 R0 I0 R0 := St.rf0 hW0
  rcases rf15_3 hW0 ta0 with d2 | ⟨a1, d2, ta1⟩
  · skip
    refine tr_aload_n dX12_nights_0 rfl ?_
    refine q_iconst dX12_nights_1 (by decide) ?_
    intro v3 h4
    refine q_putI dX12_nights_2 fl12_70 (kR15 hS0.1 ta0) (Or.inl rfl) hS0 ta0 (iokF rfl) rfl (by decide +kernel) ?_
    intro I5 hS6 e7 f8
    refine tr_aload_n dX12_nights_5 rfl ?_
    refine tr_getN dX12_nights_6 fl12_385 (kR15 hS6.1 ta0) d2 ?_
    refine tr_ifnonnullN dX12_nights_9 ?_
    refine tr_aload_n dX12_nights_12 rfl ?_
    refine q_iconst dX12_nights_13 (by decide) ?_
    intro v9 h10
    refine q_callVi hE (M' := mX12_lost) (as := [_]) dX12_nights_14 lk12_458 inX12_lost seX12_lost myX12_lost (by decide) ⟨by decide, by decide⟩ rfl (kR15 hS6.1 ta0) (Nat.le_of_ble_eq_true rfl) rfl rfl (by decide) (by decide) (k_X12_lost hS6.1 ta0) ?_
    rintro v15 cn' K' N' I11 R12 L13 ⟨rfl, rfl, rfl, rfl, rfl, g14, -⟩
    have hS16 := hS6.tr g14 (by decide +kernel) (by decide +kernel)
    have c17 : I11 a0 0 = v3 := (g14.cell ta0 (by decide +kernel)).trans e7
    exact tr_iret hZ dX12_nights_17 rfl (by decide) (by decide) ⟨v15, rfl, rfl, rfl, rfl, rfl, rfl, hS16, trivial⟩
  · skip
    refine tr_aload_n dX12_nights_0 rfl ?_
    refine q_iconst dX12_nights_1 (by decide) ?_
    intro v18 h19
    refine q_putI dX12_nights_2 fl12_70 (kR15 hS0.1 ta0) (Or.inl rfl) hS0 ta0 (iokF rfl) rfl (by decide +kernel) ?_
    intro I20 hS21 e22 f23
    refine tr_aload_n dX12_nights_5 rfl ?_
    refine tr_getR dX12_nights_6 fl12_385 (kR15 hS21.1 ta0) d2 ?_
    refine tr_ifnonnull 18 dX12_nights_9 (by decide) ?_
    refine tr_iload_n dX12_nights_18 rfl ?_
    refine q_iconst dX12_nights_19 (by decide) ?_
    intro v24 h25
    refine q_ldcw 65536 dX12_nights_20 ld12_503 (by decide +kernel) ?_
    intro v26 h27
    refine q_callSi hE (M' := mX12_in) (as := [_, _, _]) dX12_nights_23 lk12_149 inX12_in myX12_in ⟨by decide, by decide⟩ rfl (Nat.le_of_ble_eq_true rfl) rfl rfl (by decide) (by decide) (k_X12_in hS21.1 ) ?_
    rintro v32 cn' K' N' I28 R29 L30 ⟨rfl, rfl, rfl, rfl, rfl, rfl, h33, p34, p35, -⟩
    have p36 := p34
    have p37 := p35
    refine q_if_eq 49 dX12_nights_26 (by decide) (fun h38 => ?_) (fun h38 => ?_)
    · skip
      refine tr_aload_n dX12_nights_49 rfl ?_
      refine q_iconst dX12_nights_50 (by decide) ?_
      intro v39 h40
      refine q_callVi hE (M' := mX12_lost) (as := [_]) dX12_nights_51 lk12_458 inX12_lost seX12_lost myX12_lost (by decide) ⟨by decide, by decide⟩ rfl (kR15 hS21.1 ta0) (Nat.le_of_ble_eq_true rfl) rfl rfl (by decide) (by decide) (k_X12_lost hS21.1 ta0) ?_
      rintro v45 cn' K' N' I41 R42 L43 ⟨rfl, rfl, rfl, rfl, rfl, g44, -⟩
      have hS46 := hS21.tr g44 (by decide +kernel) (by decide +kernel)
      have c47 : I41 a0 0 = v18 := (g44.cell ta0 (by decide +kernel)).trans e22
      exact tr_iret hZ dX12_nights_54 rfl (by decide) (by decide) ⟨v45, rfl, rfl, rfl, rfl, rfl, rfl, hS46, trivial⟩
    · skip
      refine tr_iload_n dX12_nights_29 rfl ?_
      refine q_iconst dX12_nights_30 (by decide) ?_
      intro v48 h49
      refine q_bipush dX12_nights_31 (by decide +kernel) ?_
      intro v50 h51
      refine q_callSi hE (M' := mX12_in) (as := [_, _, _]) dX12_nights_33 lk12_149 inX12_in myX12_in ⟨by decide, by decide⟩ rfl (Nat.le_of_ble_eq_true rfl) rfl rfl (by decide) (by decide) (k_X12_in hS21.1 ) ?_
      rintro v56 cn' K' N' I52 R53 L54 ⟨rfl, rfl, rfl, rfl, rfl, rfl, h57, p58, p59, -⟩
      have p60 := p58
      have p61 := p59
      refine q_if_eq 49 dX12_nights_36 (by decide) (fun h62 => ?_) (fun h62 => ?_)
      · skip
        refine tr_aload_n dX12_nights_49 rfl ?_
        refine q_iconst dX12_nights_50 (by decide) ?_
        intro v63 h64
        refine q_callVi hE (M' := mX12_lost) (as := [_]) dX12_nights_51 lk12_458 inX12_lost seX12_lost myX12_lost (by decide) ⟨by decide, by decide⟩ rfl (kR15 hS21.1 ta0) (Nat.le_of_ble_eq_true rfl) rfl rfl (by decide) (by decide) (k_X12_lost hS21.1 ta0) ?_
        rintro v69 cn' K' N' I65 R66 L67 ⟨rfl, rfl, rfl, rfl, rfl, g68, -⟩
        have hS70 := hS21.tr g68 (by decide +kernel) (by decide +kernel)
        have c71 : I65 a0 0 = v18 := (g68.cell ta0 (by decide +kernel)).trans e22
        exact tr_iret hZ dX12_nights_54 rfl (by decide) (by decide) ⟨v69, rfl, rfl, rfl, rfl, rfl, rfl, hS70, trivial⟩
      · skip
        refine tr_iload_n dX12_nights_39 rfl ?_
        refine q_iconst dX12_nights_40 (by decide) ?_
        intro v72 h73
        refine q_bipush dX12_nights_41 (by decide +kernel) ?_
        intro v74 h75
        refine q_callSi hE (M' := mX12_in) (as := [_, _, _]) dX12_nights_43 lk12_149 inX12_in myX12_in ⟨by decide, by decide⟩ rfl (Nat.le_of_ble_eq_true rfl) rfl rfl (by decide) (by decide) (k_X12_in hS21.1 ) ?_
        rintro v80 cn' K' N' I76 R77 L78 ⟨rfl, rfl, rfl, rfl, rfl, rfl, h81, p82, p83, -⟩
        have p84 := p82
        have p85 := p83
        refine q_if_ne 55 dX12_nights_46 (by decide) (fun h86 => ?_) (fun h86 => ?_)
        · skip
          refine q_iconst dX12_nights_55 (by decide) ?_
          intro v87 h88
          refine tr_istore dX12_nights_56 (by decide) (by decide) ?_
          have lp98 : ∀ (fu : Nat) (ls : Nat → Option Value) (v89 : Int32) (I95 : cz_I), ls 0 = some (.ref a0) → ls 1 = some (.int x1) → ls 2 = some (.int x2) → ls 3 = some (.int x3) → ls 4 = some (.int v89) → St T cn K N d wi_X12_nights wr_X12_nights I0 R0 I95 R0 → 0 ≤ v89.toInt → (-v89.toInt + 2147483647).toNat < fu → Tr X mX12_nights 58 ls [] cn K N I95 R0 L0 0 0 := by
            intro fu
            induction fu with
            | zero => intros; rename_i hz; exact absurd hz (Nat.not_lt_zero _)
            | succ fu ih98 =>
              intro ls v89 I95 hl90 hl91 hl92 hl93 hl94 hS96 g97 hm98
              refine tr_iload dX12_nights_58 hl94 ?_
              refine q_bipush dX12_nights_60 (by decide +kernel) ?_
              intro v100 h101
              refine q_icmp_ge 85 dX12_nights_62 (by decide) (fun h102 => ?_) (fun h102 => ?_)
              · skip
                refine tr_aload_n dX12_nights_85 hl90 ?_
                obtain ⟨a103, d104, ta103⟩ := rf15_16 hW0 ta0
                refine tr_getR dX12_nights_86 fl12_17 (kR15 hS96.1 ta0) d104 ?_
                refine q_iconst dX12_nights_89 (by decide) ?_
                intro v105 h106
                refine tr_iload_n dX12_nights_90 hl91 ?_
                refine q_iast dX12_nights_91 (kR77 hS96.1 ta103) (ti_in (nR77 hS96.1 ta103) (by omega) (by omega)) hS96 ta103 (iok_w2 rfl (by have q := ti_nat (i := v105) (by omega); omega) (by omega)) rfl (by rfl) ?_
                intro I107 hS108 e110 f109
                rw [show v105.toNatClampNeg = 2 from ti_cl (by omega)] at e110
                refine q_iconst dX12_nights_92 (by decide) ?_
                intro v111 h112
                refine tr_istore dX12_nights_93 (by decide) (by decide) ?_
                refine q_iconst dX12_nights_95 (by decide) ?_
                intro v113 h114
                refine tr_istore dX12_nights_96 (by decide) (by decide) ?_
                have lp126 : ∀ (fu : Nat) (ls : Nat → Option Value) (v115 : Int32) (v116 : Int32) (I123 : cz_I), ls 0 = some (.ref a0) → ls 1 = some (.int x1) → ls 2 = some (.int x2) → ls 3 = some (.int x3) → ls 4 = some (.int v115) → ls 5 = some (.int v116) → St T cn K N d wi_X12_nights wr_X12_nights I0 R0 I123 R0 → 0 ≤ v116.toInt → (-v116.toInt + 2147483647).toNat < fu → Tr X mX12_nights 98 ls [] cn K N I123 R0 L0 0 0 := by
                  intro fu
                  induction fu with
                  | zero => intros; rename_i hz; exact absurd hz (Nat.not_lt_zero _)
                  | succ fu ih126 =>
                    intro ls v115 v116 I123 hl117 hl118 hl119 hl120 hl121 hl122 hS124 g125 hm126
                    refine tr_iload dX12_nights_98 hl122 ?_
                    refine tr_iload_n dX12_nights_100 hl119 ?_
                    refine q_icmp_ge 146 dX12_nights_101 (by decide) (fun h128 => ?_) (fun h128 => ?_)
                    · skip
                      refine q_iconst dX12_nights_146 (by decide) ?_
                      intro v129 h130
                      refine tr_istore dX12_nights_147 (by decide) (by decide) ?_
                      have lp141 : ∀ (fu : Nat) (ls : Nat → Option Value) (v131 : Int32) (I138 : cz_I), ls 0 = some (.ref a0) → ls 1 = some (.int x1) → ls 2 = some (.int x2) → ls 3 = some (.int x3) → ls 4 = some (.int v115) → ls 5 = some (.int v131) → St T cn K N d wi_X12_nights wr_X12_nights I0 R0 I138 R0 → 0 ≤ v131.toInt → (-v131.toInt + 2147483647).toNat < fu → Tr X mX12_nights 149 ls [] cn K N I138 R0 L0 0 0 := by
                        intro fu
                        induction fu with
                        | zero => intros; rename_i hz; exact absurd hz (Nat.not_lt_zero _)
                        | succ fu ih141 =>
                          intro ls v131 I138 hl132 hl133 hl134 hl135 hl136 hl137 hS139 g140 hm141
                          refine tr_iload dX12_nights_149 hl137 ?_
                          refine q_bipush dX12_nights_151 (by decide +kernel) ?_
                          intro v143 h144
                          refine q_icmp_ge 176 dX12_nights_153 (by decide) (fun h145 => ?_) (fun h145 => ?_)
                          · skip
                            refine tr_aload_n dX12_nights_176 hl132 ?_
                            refine tr_iload dX12_nights_177 hl136 ?_
                            refine q_callVi hE (M' := mX12_good) (as := [_]) dX12_nights_179 lk12_81 inX12_good seX12_good myX12_good (by decide) ⟨by decide, by decide⟩ rfl (kR15 hS139.1 ta0) (Nat.le_of_ble_eq_true rfl) rfl rfl (by decide) (by decide) (k_X12_good hS139.1 ta0) ?_
                            rintro v150 cn' K' N' I146 R147 L148 ⟨rfl, rfl, rfl, rfl, rfl, g149, -⟩
                            have hS151 := hS139.tr g149 (by decide +kernel) (by decide +kernel)
                            exact tr_iret hZ dX12_nights_182 rfl (by decide) (by decide) ⟨v150, rfl, rfl, rfl, rfl, rfl, rfl, hS151, trivial⟩
                          · skip
                            refine tr_aload_n dX12_nights_156 hl132 ?_
                            refine tr_getR dX12_nights_157 fl12_17 (kR15 hS139.1 ta0) d104 ?_
                            refine tr_iload dX12_nights_160 hl137 ?_
                            refine tr_aload_n dX12_nights_162 hl132 ?_
                            obtain ⟨a152, d153, ta152⟩ := rf15_35 hW0 ta0
                            refine tr_getR dX12_nights_163 fl12_67 (kR15 hS139.1 ta0) d153 ?_
                            refine tr_iload dX12_nights_166 hl137 ?_
                            refine q_iald dX12_nights_168 (kR80 hS139.1 ta152) (ti_in (nR80 hS139.1 ta152) (by omega) (by omega)) ?_
                            intro v154 c155
                            refine q_iast dX12_nights_169 (kR77 hS139.1 ta103) (ti_in (nR77 hS139.1 ta103) (by omega) (by omega)) hS139 ta103 (iok_w (r := 80) rfl rfl (by have q := ti_nat (i := v131) (by omega); have q2 := ti_nat (i := v131) (by omega); omega) (hS139.1.iv ta152 c155)) rfl (by rfl) ?_
                            intro I157 hS158 e160 f159
                            refine q_iincE dX12_nights_170 hl137 (by decide) (by decide) (by intros; omega) ?_
                            intro v161 h162
                            refine tr_goto 149 dX12_nights_173 (by decide) ?_
                            exact ih141 _ v161 I157 hl132 hl133 hl134 hl135 hl136 rfl hS158 (by omega) (by omega)
                      exact lp141 _ _ v129 I123 hl117 hl118 hl119 hl120 hl121 rfl hS124 (by omega) (Nat.lt_succ_self _)
                    · skip
                      refine tr_aload_n dX12_nights_104 hl117 ?_
                      refine tr_getR dX12_nights_105 fl12_17 (kR15 hS124.1 ta0) d104 ?_
                      refine q_iconst dX12_nights_108 (by decide) ?_
                      intro v163 h164
                      refine q_iconst dX12_nights_109 (by decide) ?_
                      intro v165 h166
                      refine q_iast dX12_nights_110 (kR77 hS124.1 ta103) (ti_in (nR77 hS124.1 ta103) (by omega) (by omega)) hS124 ta103 (iok_w0 rfl (by omega)) rfl (by rfl) ?_
                      intro I167 hS168 e170 f169
                      rw [show v163.toNatClampNeg = 1 from ti_cl (by omega)] at e170
                      refine q_iconst dX12_nights_111 (by decide) ?_
                      intro v171 h172
                      refine tr_istore dX12_nights_112 (by decide) (by decide) ?_
                      have lp187 : ∀ (fu : Nat) (ls : Nat → Option Value) (v173 : Int32) (I181 : cz_I) (v183 : Int32), ls 0 = some (.ref a0) → ls 1 = some (.int x1) → ls 2 = some (.int x2) → ls 3 = some (.int x3) → ls 4 = some (.int v115) → ls 5 = some (.int v116) → ls 6 = some (.int v173) → St T cn K N d wi_X12_nights wr_X12_nights I0 R0 I181 R0 → I181 a103 1 = v183 → v183.toInt = v173.toInt → 0 ≤ v173.toInt → (-v173.toInt + 2147483647).toNat < fu → Tr X mX12_nights 114 ls [] cn K N I181 R0 L0 0 0 := by
                        intro fu
                        induction fu with
                        | zero => intros; rename_i hz; exact absurd hz (Nat.not_lt_zero _)
                        | succ fu ih187 =>
                          intro ls v173 I181 v183 hl174 hl175 hl176 hl177 hl178 hl179 hl180 hS182 c184 g185 g186 hm187
                          have b189 := iv77_1 hS182.1 ta103 (by decide) c184
                          refine tr_iload dX12_nights_114 hl180 ?_
                          refine tr_iload_n dX12_nights_116 hl177 ?_
                          refine q_icmp_ge 131 dX12_nights_117 (by decide) (fun h190 => ?_) (fun h190 => ?_)
                          · skip
                            refine tr_iload dX12_nights_131 hl178 ?_
                            refine tr_aload_n dX12_nights_133 hl174 ?_
                            refine q_callVi hE (M' := mX12_tonight) (as := []) dX12_nights_134 lk12_455 inX12_tonight seX12_tonight myX12_tonight (by decide) ⟨by decide, by decide⟩ rfl (kR15 hS182.1 ta0) (Nat.le_of_ble_eq_true rfl) rfl rfl (by decide) (by decide) (k_X12_tonight hS182.1 ta0 ⟨_, d2⟩) ?_
                            rintro v195 cn' K' N' I191 R192 L193 ⟨rfl, rfl, rfl, rfl, rfl, g194, -⟩
                            have hS196 := hS182.tr g194 (by decide +kernel) (by decide +kernel)
                            have c197 : I191 a103 1 = v183 := (g194.cell ta103 (by decide +kernel)).trans c184
                            refine q_iadd dX12_nights_137 ?_
                            intro v198
                            refine tr_istore dX12_nights_138 (by decide) (by decide) ?_
                            refine q_iincE dX12_nights_140 hl179 (by decide) (by decide) (by intros; omega) ?_
                            intro v199 h200
                            refine tr_goto 98 dX12_nights_143 (by decide) ?_
                            exact ih126 _ v198 v199 I191 hl174 hl175 hl176 hl177 rfl rfl hS196 (by omega) (by omega)
                          · skip
                            refine tr_aload_n dX12_nights_120 hl174 ?_
                            refine q_callVi hE (M' := mX12_draws) (as := []) dX12_nights_121 lk12_504 inX12_draws seX12_draws myX12_draws (by decide) ⟨by decide, by decide⟩ rfl (kR15 hS182.1 ta0) (Nat.le_of_ble_eq_true rfl) rfl rfl (by decide) (by decide) (k_X12_draws hS182.1 ta0 (fun q0 z0 => by obtain rfl := Option.some.inj ((d104).symm.trans z0); (try rw [c184]); (try omega)) ⟨_, d2⟩) ?_
                            rintro v205 cn' K' N' I201 R202 L203 ⟨rfl, rfl, rfl, rfl, rfl, g204, h206, p207, -⟩
                            have hS208 := hS182.tr g204 (by decide +kernel) (by decide +kernel)
                            obtain ⟨v209, c210⟩ : ∃ v, I201 a103 1 = v := ⟨_, rfl⟩
                            have b211 := iv77_1 hS208.1 ta103 (by decide) c210
                            have p212 := p207 _ d104
                            rw [c210] at p212
                            rw [c184] at p212
                            refine tr_pop dX12_nights_124 rfl ?_
                            refine q_iincE dX12_nights_125 hl180 (by decide) (by decide) (by intros; omega) ?_
                            intro v213 h214
                            refine tr_goto 114 dX12_nights_128 (by decide) ?_
                            exact ih187 _ v213 I201 v209 hl174 hl175 hl176 hl177 hl178 hl179 rfl hS208 c210 (by omega) (by omega) (by omega)
                      exact lp187 _ _ v171 I167 v165 hl117 hl118 hl119 hl120 hl121 hl122 rfl hS168 e170 (by omega) (by omega) (Nat.lt_succ_self _)
                exact lp126 _ _ v111 v113 I107 hl90 hl91 hl92 hl93 rfl rfl hS108 (by omega) (Nat.lt_succ_self _)
              · skip
                refine tr_aload_n dX12_nights_65 hl90 ?_
                obtain ⟨a215, d216, ta215⟩ := rf15_35 hW0 ta0
                refine tr_getR dX12_nights_66 fl12_67 (kR15 hS96.1 ta0) d216 ?_
                refine tr_iload dX12_nights_69 hl94 ?_
                refine tr_aload_n dX12_nights_71 hl90 ?_
                obtain ⟨a217, d218, ta217⟩ := rf15_16 hW0 ta0
                refine tr_getR dX12_nights_72 fl12_17 (kR15 hS96.1 ta0) d218 ?_
                refine tr_iload dX12_nights_75 hl94 ?_
                refine q_iald dX12_nights_77 (kR77 hS96.1 ta217) (ti_in (nR77 hS96.1 ta217) (by omega) (by omega)) ?_
                intro v219 c220
                refine q_iast dX12_nights_78 (kR80 hS96.1 ta215) (ti_in (nR80 hS96.1 ta215) (by omega) (by omega)) hS96 ta215 (iok_w (r := 77) rfl rfl (by have q := ti_nat (i := v89) (by omega); have q2 := ti_nat (i := v89) (by omega); omega) (hS96.1.iv ta217 c220)) rfl (by rfl) ?_
                intro I222 hS223 e225 f224
                refine q_iincE dX12_nights_79 hl94 (by decide) (by decide) (by intros; omega) ?_
                intro v226 h227
                refine tr_goto 58 dX12_nights_82 (by decide) ?_
                exact ih98 _ v226 I222 hl90 hl91 hl92 hl93 rfl hS223 (by omega) (by omega)
          exact lp98 _ _ v87 I20 rfl rfl rfl rfl rfl hS21 (by omega) (Nat.lt_succ_self _)
        · skip
          refine tr_aload_n dX12_nights_49 rfl ?_
          refine q_iconst dX12_nights_50 (by decide) ?_
          intro v228 h229
          refine q_callVi hE (M' := mX12_lost) (as := [_]) dX12_nights_51 lk12_458 inX12_lost seX12_lost myX12_lost (by decide) ⟨by decide, by decide⟩ rfl (kR15 hS21.1 ta0) (Nat.le_of_ble_eq_true rfl) rfl rfl (by decide) (by decide) (k_X12_lost hS21.1 ta0) ?_
          rintro v234 cn' K' N' I230 R231 L232 ⟨rfl, rfl, rfl, rfl, rfl, g233, -⟩
          have hS235 := hS21.tr g233 (by decide +kernel) (by decide +kernel)
          have c236 : I230 a0 0 = v18 := (g233.cell ta0 (by decide +kernel)).trans e22
          exact tr_iret hZ dX12_nights_54 rfl (by decide) (by decide) ⟨v234, rfl, rfl, rfl, rfl, rfl, rfl, hS235, trivial⟩
def wi_X12_denied : List Nat := [961, 962]
def wr_X12_denied : List Nat := []
set_option maxHeartbeats 4000000 in
theorem k_X12_denied {l : Launch} {T : Nat → Nat} {cn : Nat} {K N : Nat → Nat} {I0 : cz_I} {R0 : cz_R} {L0 : cz_L} {d : Int} (hW0 : Wf T cn K N I0 R0 d) {a0 : Nat} (ta0 : T a0 = 15) {x1 : Int32} : ConE l mX12_denied [.ref a0, .int x1] cn K N I0 R0 L0 (ca_i (fun v cn' K' N' I' R' L' => cn = cn' ∧ K = K' ∧ N = N' ∧ R0 = R' ∧ L0 = L' ∧ St T cn K N d wi_X12_denied wr_X12_denied I0 R0 I' R0 ∧ (0 ≤ v.toInt ∧ v.toInt ≤ 1) ∧ True)) := by
  refine ConE.of (by decide +kernel) rfl (Nat.le_of_ble_eq_true rfl) rfl (fun X hX hZ hE => ?_)
  subst hX
  have hS0 : St T cn K N d wi_X12_denied wr_X12_denied I0 R0 I0 R0 := St.rf0 hW0
  refine tr_aload_n dX12_denied_0 rfl ?_
  refine tr_iload_n dX12_denied_1 rfl ?_
  refine q_callVi hE (M' := mX12_refused) (as := [_]) dX12_denied_2 lk12_76 inX12_refused seX12_refused myX12_refused (by decide) ⟨by decide, by decide⟩ rfl (kR15 hS0.1 ta0) (Nat.le_of_ble_eq_true rfl) rfl rfl (by decide) (by decide) (k_X12_refused hS0.1 ta0) ?_
  rintro v5 cn' K' N' I1 R2 L3 ⟨rfl, rfl, rfl, rfl, rfl, g4, -⟩
  have hS6 := hS0.tr g4 (by decide +kernel) (by decide +kernel)
  refine tr_pop dX12_denied_5 rfl ?_
  refine q_iconst dX12_denied_6 (by decide) ?_
  intro v7 h8
  exact tr_zret hZ dX12_denied_7 rfl (ti_b01 (by omega) (by omega)) (by decide) (by decide) ⟨v7, rfl, rfl, rfl, rfl, rfl, rfl, hS6, (by omega), trivial⟩
def wi_X12_keeps : List Nat := [979, 5055]
def wr_X12_keeps : List Nat := []
set_option maxHeartbeats 4000000 in
theorem k_X12_keeps {l : Launch} {T : Nat → Nat} {cn : Nat} {K N : Nat → Nat} {I0 : cz_I} {R0 : cz_R} {L0 : cz_L} {d : Int} (hW0 : Wf T cn K N I0 R0 d) {a0 : Nat} (ta0 : T a0 = 15) : ConE l mX12_keeps [.ref a0] cn K N I0 R0 L0 (ca_v (fun cn' K' N' I' R' L' => cn = cn' ∧ K = K' ∧ N = N' ∧ R0 = R' ∧ L0 = L' ∧ St T cn K N d wi_X12_keeps wr_X12_keeps I0 R0 I' R0 ∧ True)) := by
  refine ConE.of (by decide +kernel) rfl (Nat.le_of_ble_eq_true rfl) rfl (fun X hX hZ hE => ?_)
  subst hX
  have hS0 : St T cn K N d wi_X12_keeps wr_X12_keeps I0 R0 I0 R0 := St.rf0 hW0
  refine tr_aload_n dX12_keeps_0 rfl ?_
  obtain ⟨v1, c2⟩ : ∃ v, I0 a0 19 = v := ⟨_, rfl⟩
  have b3 := iv15_19 hS0.1 ta0 c2
  refine q_getI dX12_keeps_1 fl12_387 (kR15 hS0.1 ta0) c2 ?_
  refine q_bipush dX12_keeps_4 (by decide +kernel) ?_
  intro v4 h5
  refine q_icmp_ne 49 dX12_keeps_6 (by decide) (fun h6 => ?_) (fun h6 => ?_)
  · skip
    refine q_iconst dX12_keeps_49 (by decide) ?_
    intro v7 h8
    refine tr_istore_n dX12_keeps_50 (by decide) (by decide) ?_
    have lp18 : ∀ (fu : Nat) (ls : Nat → Option Value) (v9 : Int32) (I12 : cz_I) (v14 : Int32), ls 0 = some (.ref a0) → ls 1 = some (.int v9) → St T cn K N d wi_X12_keeps wr_X12_keeps I0 R0 I12 R0 → I12 a0 19 = v14 → v14.toInt ≤ 11 → 0 ≤ v9.toInt → (-v9.toInt + 2147483647).toNat < fu → Tr X mX12_keeps 51 ls [] cn K N I12 R0 L0 0 0 := by
      intro fu
      induction fu with
      | zero => intros; rename_i hz; exact absurd hz (Nat.not_lt_zero _)
      | succ fu ih18 =>
        intro ls v9 I12 v14 hl10 hl11 hS13 c15 g16 g17 hm18
        have b20 := iv15_19 hS13.1 ta0 c15
        refine tr_iload_n dX12_keeps_51 hl11 ?_
        refine q_bipush dX12_keeps_52 (by decide +kernel) ?_
        intro v21 h22
        refine q_icmp_ge 83 dX12_keeps_54 (by decide) (fun h23 => ?_) (fun h23 => ?_)
        · skip
          refine tr_aload_n dX12_keeps_83 hl10 ?_
          refine tr_dup dX12_keeps_84 rfl ?_
          refine q_getI dX12_keeps_85 fl12_387 (kR15 hS13.1 ta0) c15 ?_
          refine q_iconst dX12_keeps_88 (by decide) ?_
          intro v24 h25
          refine q_iaddE dX12_keeps_89 (by intros; omega) ?_
          intro v26 h27
          refine q_putI dX12_keeps_90 fl12_387 (kR15 hS13.1 ta0) (Or.inl rfl) hS13 ta0 (by show (0 : Int) ≤ v26.toInt ∧ v26.toInt ≤ (12 : Int); omega) rfl (by decide +kernel) ?_
          intro I28 hS29 e30 f31
          exact tr_vret hZ dX12_keeps_93 rfl (by decide) (by decide) ⟨rfl, rfl, rfl, rfl, rfl, rfl, hS29, trivial⟩
        · skip
          refine tr_aload_n dX12_keeps_57 hl10 ?_
          obtain ⟨a32, d33, ta32⟩ := rf15_17 hW0 ta0
          refine tr_getR dX12_keeps_58 fl12_21 (kR15 hS13.1 ta0) d33 ?_
          refine q_bipush dX12_keeps_61 (by decide +kernel) ?_
          intro v34 h35
          refine tr_aload_n dX12_keeps_63 hl10 ?_
          refine q_getI dX12_keeps_64 fl12_387 (kR15 hS13.1 ta0) c15 ?_
          refine q_imulE (c := 15) dX12_keeps_67 (by omega) (by omega) ?_
          intro v36 h37
          refine tr_iload_n dX12_keeps_68 hl11 ?_
          refine q_iaddE dX12_keeps_69 (by intros; omega) ?_
          intro v38 h39
          refine tr_aload_n dX12_keeps_70 hl10 ?_
          obtain ⟨a40, d41, ta40⟩ := rf15_16 hW0 ta0
          refine tr_getR dX12_keeps_71 fl12_17 (kR15 hS13.1 ta0) d41 ?_
          refine tr_iload_n dX12_keeps_74 hl11 ?_
          refine q_iald dX12_keeps_75 (kR77 hS13.1 ta40) (ti_in (nR77 hS13.1 ta40) (by omega) (by omega)) ?_
          intro v42 c43
          refine q_iast dX12_keeps_76 (kR78 hS13.1 ta32) (ti_in (nR78 hS13.1 ta32) (by omega) (by omega)) hS13 ta32 (iok_w (r := 77) rfl rfl (by have q := ti_nat (i := v38) (by omega); have q2 := ti_nat (i := v9) (by omega); omega) (hS13.1.iv ta40 c43)) rfl (by rfl) ?_
          intro I45 hS46 e48 f47
          have c49 : I45 a0 19 = v14 := (f47 _ _ (fun q => by have z := ta0; rw [q.1, ta32] at z; exact absurd z (by decide))).trans c15
          refine q_iincE dX12_keeps_77 hl11 (by decide) (by decide) (by intros; omega) ?_
          intro v50 h51
          refine tr_goto 51 dX12_keeps_80 (by decide) ?_
          exact ih18 _ v50 I45 v14 hl10 rfl hS46 c49 (by omega) (by omega) (by omega)
    exact lp18 _ _ v7 I0 v1 rfl rfl hS0 c2 (by omega) (by omega) (Nat.lt_succ_self _)
  · skip
    refine q_iconst dX12_keeps_9 (by decide) ?_
    intro v52 h53
    refine tr_istore_n dX12_keeps_10 (by decide) (by decide) ?_
    have lp63 : ∀ (fu : Nat) (ls : Nat → Option Value) (v54 : Int32) (I57 : cz_I) (v59 : Int32), ls 0 = some (.ref a0) → ls 1 = some (.int v54) → St T cn K N d wi_X12_keeps wr_X12_keeps I0 R0 I57 R0 → I57 a0 19 = v59 → v59.toInt = 12 → 0 ≤ v54.toInt → (-v54.toInt + 2147483647).toNat < fu → Tr X mX12_keeps 11 ls [] cn K N I57 R0 L0 0 0 := by
      intro fu
      induction fu with
      | zero => intros; rename_i hz; exact absurd hz (Nat.not_lt_zero _)
      | succ fu ih63 =>
        intro ls v54 I57 v59 hl55 hl56 hS58 c60 g61 g62 hm63
        have b65 := iv15_19 hS58.1 ta0 c60
        refine tr_iload_n dX12_keeps_11 hl56 ?_
        refine q_sipush dX12_keeps_12 (by decide +kernel) ?_
        intro v66 h67
        refine q_icmp_ge 39 dX12_keeps_15 (by decide) (fun h68 => ?_) (fun h68 => ?_)
        · skip
          refine tr_aload_n dX12_keeps_39 hl55 ?_
          refine tr_dup dX12_keeps_40 rfl ?_
          refine q_getI dX12_keeps_41 fl12_387 (kR15 hS58.1 ta0) c60 ?_
          refine q_iconst dX12_keeps_44 (by decide) ?_
          intro v69 h70
          refine q_isubE dX12_keeps_45 (by intros; omega) ?_
          intro v71 h72
          refine q_putI dX12_keeps_46 fl12_387 (kR15 hS58.1 ta0) (Or.inl rfl) hS58 ta0 (by show (0 : Int) ≤ v71.toInt ∧ v71.toInt ≤ (12 : Int); omega) rfl (by decide +kernel) ?_
          intro I73 hS74 e75 f76
          refine q_iconst dX12_keeps_49 (by decide) ?_
          intro v77 h78
          refine tr_istore_n dX12_keeps_50 (by decide) (by decide) ?_
          have lp88 : ∀ (fu : Nat) (ls : Nat → Option Value) (v79 : Int32) (I82 : cz_I) (v84 : Int32), ls 0 = some (.ref a0) → ls 1 = some (.int v79) → St T cn K N d wi_X12_keeps wr_X12_keeps I0 R0 I82 R0 → I82 a0 19 = v84 → v84.toInt ≤ 11 → 0 ≤ v79.toInt → (-v79.toInt + 2147483647).toNat < fu → Tr X mX12_keeps 51 ls [] cn K N I82 R0 L0 0 0 := by
            intro fu
            induction fu with
            | zero => intros; rename_i hz; exact absurd hz (Nat.not_lt_zero _)
            | succ fu ih88 =>
              intro ls v79 I82 v84 hl80 hl81 hS83 c85 g86 g87 hm88
              have b90 := iv15_19 hS83.1 ta0 c85
              refine tr_iload_n dX12_keeps_51 hl81 ?_
              refine q_bipush dX12_keeps_52 (by decide +kernel) ?_
              intro v91 h92
              refine q_icmp_ge 83 dX12_keeps_54 (by decide) (fun h93 => ?_) (fun h93 => ?_)
              · skip
                refine tr_aload_n dX12_keeps_83 hl80 ?_
                refine tr_dup dX12_keeps_84 rfl ?_
                refine q_getI dX12_keeps_85 fl12_387 (kR15 hS83.1 ta0) c85 ?_
                refine q_iconst dX12_keeps_88 (by decide) ?_
                intro v94 h95
                refine q_iaddE dX12_keeps_89 (by intros; omega) ?_
                intro v96 h97
                refine q_putI dX12_keeps_90 fl12_387 (kR15 hS83.1 ta0) (Or.inl rfl) hS83 ta0 (by show (0 : Int) ≤ v96.toInt ∧ v96.toInt ≤ (12 : Int); omega) rfl (by decide +kernel) ?_
                intro I98 hS99 e100 f101
                exact tr_vret hZ dX12_keeps_93 rfl (by decide) (by decide) ⟨rfl, rfl, rfl, rfl, rfl, rfl, hS99, trivial⟩
              · skip
                refine tr_aload_n dX12_keeps_57 hl80 ?_
                obtain ⟨a102, d103, ta102⟩ := rf15_17 hW0 ta0
                refine tr_getR dX12_keeps_58 fl12_21 (kR15 hS83.1 ta0) d103 ?_
                refine q_bipush dX12_keeps_61 (by decide +kernel) ?_
                intro v104 h105
                refine tr_aload_n dX12_keeps_63 hl80 ?_
                refine q_getI dX12_keeps_64 fl12_387 (kR15 hS83.1 ta0) c85 ?_
                refine q_imulE (c := 15) dX12_keeps_67 (by omega) (by omega) ?_
                intro v106 h107
                refine tr_iload_n dX12_keeps_68 hl81 ?_
                refine q_iaddE dX12_keeps_69 (by intros; omega) ?_
                intro v108 h109
                refine tr_aload_n dX12_keeps_70 hl80 ?_
                obtain ⟨a110, d111, ta110⟩ := rf15_16 hW0 ta0
                refine tr_getR dX12_keeps_71 fl12_17 (kR15 hS83.1 ta0) d111 ?_
                refine tr_iload_n dX12_keeps_74 hl81 ?_
                refine q_iald dX12_keeps_75 (kR77 hS83.1 ta110) (ti_in (nR77 hS83.1 ta110) (by omega) (by omega)) ?_
                intro v112 c113
                refine q_iast dX12_keeps_76 (kR78 hS83.1 ta102) (ti_in (nR78 hS83.1 ta102) (by omega) (by omega)) hS83 ta102 (iok_w (r := 77) rfl rfl (by have q := ti_nat (i := v108) (by omega); have q2 := ti_nat (i := v79) (by omega); omega) (hS83.1.iv ta110 c113)) rfl (by rfl) ?_
                intro I115 hS116 e118 f117
                have c119 : I115 a0 19 = v84 := (f117 _ _ (fun q => by have z := ta0; rw [q.1, ta102] at z; exact absurd z (by decide))).trans c85
                refine q_iincE dX12_keeps_77 hl81 (by decide) (by decide) (by intros; omega) ?_
                intro v120 h121
                refine tr_goto 51 dX12_keeps_80 (by decide) ?_
                exact ih88 _ v120 I115 v84 hl80 rfl hS116 c119 (by omega) (by omega) (by omega)
          exact lp88 _ _ v77 I73 v71 hl55 rfl hS74 e75 (by omega) (by omega) (Nat.lt_succ_self _)
        · skip
          refine tr_aload_n dX12_keeps_18 hl55 ?_
          obtain ⟨a122, d123, ta122⟩ := rf15_17 hW0 ta0
          refine tr_getR dX12_keeps_19 fl12_21 (kR15 hS58.1 ta0) d123 ?_
          refine tr_iload_n dX12_keeps_22 hl56 ?_
          refine tr_aload_n dX12_keeps_23 hl55 ?_
          refine tr_getR dX12_keeps_24 fl12_21 (kR15 hS58.1 ta0) d123 ?_
          refine tr_iload_n dX12_keeps_27 hl56 ?_
          refine q_bipush dX12_keeps_28 (by decide +kernel) ?_
          intro v124 h125
          refine q_iaddE dX12_keeps_30 (by intros; omega) ?_
          intro v126 h127
          refine q_iald dX12_keeps_31 (kR78 hS58.1 ta122) (ti_in (nR78 hS58.1 ta122) (by omega) (by omega)) ?_
          intro v128 c129
          refine q_iast dX12_keeps_32 (kR78 hS58.1 ta122) (ti_in (nR78 hS58.1 ta122) (by omega) (by omega)) hS58 ta122 (iok_w (r := 78) rfl rfl (by have q := ti_nat (i := v54) (by omega); have q2 := ti_nat (i := v126) (by omega); omega) (hS58.1.iv ta122 c129)) rfl (by rfl) ?_
          intro I131 hS132 e134 f133
          have c135 : I131 a0 19 = v59 := (f133 _ _ (fun q => by have z := ta0; rw [q.1, ta122] at z; exact absurd z (by decide))).trans c60
          refine q_iincE dX12_keeps_33 hl56 (by decide) (by decide) (by intros; omega) ?_
          intro v136 h137
          refine tr_goto 11 dX12_keeps_36 (by decide) ?_
          exact ih63 _ v136 I131 v59 hl55 rfl hS132 c135 (by omega) (by omega) (by omega)
    exact lp63 _ _ v52 I0 v1 rfl rfl hS0 c2 (by omega) (by omega) (Nat.lt_succ_self _)
def wi_X12_granted : List Nat := [961, 962]
def wr_X12_granted : List Nat := []
set_option maxHeartbeats 4000000 in
theorem k_X12_granted {l : Launch} {T : Nat → Nat} {cn : Nat} {K N : Nat → Nat} {I0 : cz_I} {R0 : cz_R} {L0 : cz_L} {d : Int} (hW0 : Wf T cn K N I0 R0 d) {a0 : Nat} (ta0 : T a0 = 15) : ConE l mX12_granted [.ref a0] cn K N I0 R0 L0 (ca_i (fun v cn' K' N' I' R' L' => cn = cn' ∧ K = K' ∧ N = N' ∧ R0 = R' ∧ L0 = L' ∧ St T cn K N d wi_X12_granted wr_X12_granted I0 R0 I' R0 ∧ (0 ≤ v.toInt ∧ v.toInt ≤ 1) ∧ True)) := by
  refine ConE.of (by decide +kernel) rfl (Nat.le_of_ble_eq_true rfl) rfl (fun X hX hZ hE => ?_)
  subst hX
  have hS0 : St T cn K N d wi_X12_granted wr_X12_granted I0 R0 I0 R0 := St.rf0 hW0
  refine tr_aload_n dX12_granted_0 rfl ?_
  refine q_iconst dX12_granted_1 (by decide) ?_
  intro v1 h2
  refine q_callVi hE (M' := mX12_good) (as := [_]) dX12_granted_2 lk12_81 inX12_good seX12_good myX12_good (by decide) ⟨by decide, by decide⟩ rfl (kR15 hS0.1 ta0) (Nat.le_of_ble_eq_true rfl) rfl rfl (by decide) (by decide) (k_X12_good hS0.1 ta0) ?_
  rintro v7 cn' K' N' I3 R4 L5 ⟨rfl, rfl, rfl, rfl, rfl, g6, -⟩
  have hS8 := hS0.tr g6 (by decide +kernel) (by decide +kernel)
  refine tr_pop dX12_granted_5 rfl ?_
  refine q_iconst dX12_granted_6 (by decide) ?_
  intro v9 h10
  exact tr_zret hZ dX12_granted_7 rfl (ti_b01 (by omega) (by omega)) (by decide) (by decide) ⟨v9, rfl, rfl, rfl, rfl, rfl, rfl, hS8, (by omega), trivial⟩
def wi_X12_call : List Nat := [960, 961, 962, 979, 4991, 5055]
def wr_X12_call : List Nat := []
set_option maxHeartbeats 4000000 in
theorem k_X12_call {l : Launch} {T : Nat → Nat} {cn : Nat} {K N : Nat → Nat} {I0 : cz_I} {R0 : cz_R} {L0 : cz_L} {d : Int} (hW0 : Wf T cn K N I0 R0 d) {a0 : Nat} (ta0 : T a0 = 15) {x1 : Int32} {x2 : Int32} : ConE l mX12_call [.ref a0, .int x1, .int x2] cn K N I0 R0 L0 (ca_i (fun v cn' K' N' I' R' L' => cn = cn' ∧ K = K' ∧ N = N' ∧ R0 = R' ∧ L0 = L' ∧ St T cn K N d wi_X12_call wr_X12_call I0 R0 I' R0 ∧ (0 ≤ v.toInt ∧ v.toInt ≤ 1) ∧ True)) := by
  refine ConE.of (by decide +kernel) rfl (Nat.le_of_ble_eq_true rfl) rfl (fun X hX hZ hE => ?_)
  subst hX
  have hS0 : St T cn K N d wi_X12_call wr_X12_call I0 R0 I0 R0 := St.rf0 hW0
  rcases rf15_3 hW0 ta0 with d2 | ⟨a1, d2, ta1⟩
  · skip
    refine tr_aload_n dX12_call_0 rfl ?_
    refine q_iconst dX12_call_1 (by decide) ?_
    intro v3 h4
    refine q_putI dX12_call_2 fl12_70 (kR15 hS0.1 ta0) (Or.inl rfl) hS0 ta0 (iokF rfl) rfl (by decide +kernel) ?_
    intro I5 hS6 e7 f8
    refine tr_aload_n dX12_call_5 rfl ?_
    refine tr_getN dX12_call_6 fl12_385 (kR15 hS6.1 ta0) d2 ?_
    refine tr_ifnullN 27 dX12_call_9 (by decide) ?_
    refine tr_aload_n dX12_call_27 rfl ?_
    refine q_iconst dX12_call_28 (by decide) ?_
    intro v9 h10
    refine q_callVi hE (M' := mX12_denied) (as := [_]) dX12_call_29 lk12_507 inX12_denied seX12_denied myX12_denied (by decide) ⟨by decide, by decide⟩ rfl (kR15 hS6.1 ta0) (Nat.le_of_ble_eq_true rfl) rfl rfl (by decide) (by decide) (k_X12_denied hS6.1 ta0) ?_
    rintro v15 cn' K' N' I11 R12 L13 ⟨rfl, rfl, rfl, rfl, rfl, g14, h16, -⟩
    have hS17 := hS6.tr g14 (by decide +kernel) (by decide +kernel)
    have c18 : I11 a0 0 = v3 := (g14.cell ta0 (by decide +kernel)).trans e7
    exact tr_zret hZ dX12_call_32 rfl (ti_b01 (by omega) (by omega)) (by decide) (by decide) ⟨v15, rfl, rfl, rfl, rfl, rfl, rfl, hS17, (by omega), trivial⟩
  · skip
    refine tr_aload_n dX12_call_0 rfl ?_
    refine q_iconst dX12_call_1 (by decide) ?_
    intro v19 h20
    refine q_putI dX12_call_2 fl12_70 (kR15 hS0.1 ta0) (Or.inl rfl) hS0 ta0 (iokF rfl) rfl (by decide +kernel) ?_
    intro I21 hS22 e23 f24
    refine tr_aload_n dX12_call_5 rfl ?_
    refine tr_getR dX12_call_6 fl12_385 (kR15 hS22.1 ta0) d2 ?_
    refine tr_ifnull dX12_call_9 ?_
    refine tr_iload_n dX12_call_12 rfl ?_
    refine q_if_lt 27 dX12_call_13 (by decide) (fun h25 => ?_) (fun h25 => ?_)
    · skip
      refine tr_aload_n dX12_call_27 rfl ?_
      refine q_iconst dX12_call_28 (by decide) ?_
      intro v26 h27
      refine q_callVi hE (M' := mX12_denied) (as := [_]) dX12_call_29 lk12_507 inX12_denied seX12_denied myX12_denied (by decide) ⟨by decide, by decide⟩ rfl (kR15 hS22.1 ta0) (Nat.le_of_ble_eq_true rfl) rfl rfl (by decide) (by decide) (k_X12_denied hS22.1 ta0) ?_
      rintro v32 cn' K' N' I28 R29 L30 ⟨rfl, rfl, rfl, rfl, rfl, g31, h33, -⟩
      have hS34 := hS22.tr g31 (by decide +kernel) (by decide +kernel)
      have c35 : I28 a0 0 = v19 := (g31.cell ta0 (by decide +kernel)).trans e23
      exact tr_zret hZ dX12_call_32 rfl (ti_b01 (by omega) (by omega)) (by decide) (by decide) ⟨v32, rfl, rfl, rfl, rfl, rfl, rfl, hS34, (by omega), trivial⟩
    · skip
      refine tr_iload_n dX12_call_16 rfl ?_
      refine tr_aload_n dX12_call_17 rfl ?_
      refine tr_getR dX12_call_18 fl12_385 (kR15 hS22.1 ta0) d2 ?_
      obtain ⟨v36, c37⟩ : ∃ v, I0 a1 5 = v := ⟨_, rfl⟩
      have b38 := iv14_5 hW0 ta1 c37
      refine q_getI dX12_call_21 fl12_349 (kR14 hS22.1 ta1) ((hS22.cell ta1 (by decide +kernel)).trans c37) ?_
      refine q_icmp_lt 33 dX12_call_24 (by decide) (fun h39 => ?_) (fun h39 => ?_)
      · skip
        refine tr_aload_n dX12_call_33 rfl ?_
        obtain ⟨a40, d41, ta40⟩ := rf15_16 hW0 ta0
        refine tr_getR dX12_call_34 fl12_17 (kR15 hS22.1 ta0) d41 ?_
        refine q_iconst dX12_call_37 (by decide) ?_
        intro v42 h43
        obtain ⟨v44, c45⟩ : ∃ v, I21 a40 0 = v := ⟨_, rfl⟩
        refine q_iald dX12_call_38 (kR77 hS22.1 ta40) (ti_in (nR77 hS22.1 ta40) (by omega) (by omega)) ?_
        intro v46 c47
        rw [show v42.toNatClampNeg = 0 from ti_cl (by omega)] at c47
        obtain rfl : v44 = v46 := (c45).symm.trans c47
        refine tr_iload_n dX12_call_39 rfl ?_
        refine q_callSi hE (M' := mX12_has) (as := [_, _]) dX12_call_40 lk12_329 inX12_has myX12_has ⟨by decide, by decide⟩ rfl (Nat.le_of_ble_eq_true rfl) rfl rfl (by decide) (by decide) (k_X12_has hS22.1 ) ?_
        rintro v52 cn' K' N' I48 R49 L50 ⟨rfl, rfl, rfl, rfl, rfl, rfl, h53, -⟩
        refine tr_iload_n dX12_call_43 rfl ?_
        refine q_icmp_ne 53 dX12_call_44 (by decide) (fun h54 => ?_) (fun h54 => ?_)
        · skip
          refine tr_aload_n dX12_call_53 rfl ?_
          refine q_callVv hE (M' := mX12_keeps) (as := []) dX12_call_54 lk12_510 inX12_keeps seX12_keeps myX12_keeps (by decide) ⟨by decide, by decide⟩ rfl (kR15 hS22.1 ta0) (Nat.le_of_ble_eq_true rfl) rfl rfl (by decide) (by decide) (k_X12_keeps hS22.1 ta0) ?_
          rintro cn' K' N' I55 R56 L57 ⟨rfl, rfl, rfl, rfl, rfl, g58, -⟩
          have hS60 := hS22.tr g58 (by decide +kernel) (by decide +kernel)
          have c61 : I55 a0 0 = v19 := (g58.cell ta0 (by decide +kernel)).trans e23
          have c62 : I55 a40 0 = v44 := (g58.cell ta40 (by decide +kernel)).trans c45
          refine tr_aload_n dX12_call_57 rfl ?_
          refine tr_getR dX12_call_58 fl12_17 (kR15 hS60.1 ta0) d41 ?_
          refine q_iconst dX12_call_61 (by decide) ?_
          intro v63 h64
          refine tr_dup2 dX12_call_62 rfl rfl ?_
          refine q_iald dX12_call_63 (kR77 hS60.1 ta40) (ti_in (nR77 hS60.1 ta40) (by omega) (by omega)) ?_
          intro v65 c66
          rw [show v63.toNatClampNeg = 0 from ti_cl (by omega)] at c66
          obtain rfl : v44 = v65 := (c62).symm.trans c66
          refine q_iconst dX12_call_64 (by decide) ?_
          intro v67 h68
          refine tr_iload_n dX12_call_65 rfl ?_
          refine q_ishlE dX12_call_66 (by omega) (by omega) ?_
          intro v69 h70
          refine q_ixor dX12_call_67 ?_
          intro v71
          refine q_iast dX12_call_68 (kR77 hS60.1 ta40) (ti_in (nR77 hS60.1 ta40) (by omega) (by omega)) hS60 ta40 (iok_wF rfl (by have q := ti_nat (i := v63) (by omega); omega)) rfl (by rfl) ?_
          intro I72 hS73 e75 f74
          have c76 : I72 a0 0 = v19 := (f74 _ _ (fun q => by have z := ta0; rw [q.1, ta40] at z; exact absurd z (by decide))).trans c61
          rw [show v63.toNatClampNeg = 0 from ti_cl (by omega)] at e75
          refine tr_aload_n dX12_call_69 rfl ?_
          refine q_callVi hE (M' := mX12_granted) (as := []) dX12_call_70 lk12_513 inX12_granted seX12_granted myX12_granted (by decide) ⟨by decide, by decide⟩ rfl (kR15 hS73.1 ta0) (Nat.le_of_ble_eq_true rfl) rfl rfl (by decide) (by decide) (k_X12_granted hS73.1 ta0) ?_
          rintro v81 cn' K' N' I77 R78 L79 ⟨rfl, rfl, rfl, rfl, rfl, g80, h82, -⟩
          have hS83 := hS73.tr g80 (by decide +kernel) (by decide +kernel)
          have c84 : I77 a0 0 = v19 := (g80.cell ta0 (by decide +kernel)).trans c76
          have c85 : I77 a40 0 = v71 := (g80.cell ta40 (by decide +kernel)).trans e75
          exact tr_zret hZ dX12_call_73 rfl (ti_b01 (by omega) (by omega)) (by decide) (by decide) ⟨v81, rfl, rfl, rfl, rfl, rfl, rfl, hS83, (by omega), trivial⟩
        · skip
          refine tr_aload_n dX12_call_47 rfl ?_
          refine q_iconst dX12_call_48 (by decide) ?_
          intro v86 h87
          refine q_callVi hE (M' := mX12_denied) (as := [_]) dX12_call_49 lk12_507 inX12_denied seX12_denied myX12_denied (by decide) ⟨by decide, by decide⟩ rfl (kR15 hS22.1 ta0) (Nat.le_of_ble_eq_true rfl) rfl rfl (by decide) (by decide) (k_X12_denied hS22.1 ta0) ?_
          rintro v92 cn' K' N' I88 R89 L90 ⟨rfl, rfl, rfl, rfl, rfl, g91, h93, -⟩
          have hS94 := hS22.tr g91 (by decide +kernel) (by decide +kernel)
          have c95 : I88 a0 0 = v19 := (g91.cell ta0 (by decide +kernel)).trans e23
          have c96 : I88 a40 0 = v44 := (g91.cell ta40 (by decide +kernel)).trans c45
          exact tr_zret hZ dX12_call_52 rfl (ti_b01 (by omega) (by omega)) (by decide) (by decide) ⟨v92, rfl, rfl, rfl, rfl, rfl, rfl, hS94, (by omega), trivial⟩
      · skip
        refine tr_aload_n dX12_call_27 rfl ?_
        refine q_iconst dX12_call_28 (by decide) ?_
        intro v97 h98
        refine q_callVi hE (M' := mX12_denied) (as := [_]) dX12_call_29 lk12_507 inX12_denied seX12_denied myX12_denied (by decide) ⟨by decide, by decide⟩ rfl (kR15 hS22.1 ta0) (Nat.le_of_ble_eq_true rfl) rfl rfl (by decide) (by decide) (k_X12_denied hS22.1 ta0) ?_
        rintro v103 cn' K' N' I99 R100 L101 ⟨rfl, rfl, rfl, rfl, rfl, g102, h104, -⟩
        have hS105 := hS22.tr g102 (by decide +kernel) (by decide +kernel)
        have c106 : I99 a0 0 = v19 := (g102.cell ta0 (by decide +kernel)).trans e23
        exact tr_zret hZ dX12_call_32 rfl (ti_b01 (by omega) (by omega)) (by decide) (by decide) ⟨v103, rfl, rfl, rfl, rfl, rfl, rfl, hS105, (by omega), trivial⟩
def wi_X12_calls : List Nat := [960, 961, 962]
def wr_X12_calls : List Nat := []
set_option maxHeartbeats 4000000 in
theorem k_X12_calls {l : Launch} {T : Nat → Nat} {cn : Nat} {K N : Nat → Nat} {I0 : cz_I} {R0 : cz_R} {L0 : cz_L} {d : Int} (hW0 : Wf T cn K N I0 R0 d) {a0 : Nat} (ta0 : T a0 = 15) : ConE l mX12_calls [.ref a0] cn K N I0 R0 L0 (ca_i (fun v cn' K' N' I' R' L' => cn = cn' ∧ K = K' ∧ N = N' ∧ R0 = R' ∧ L0 = L' ∧ St T cn K N d wi_X12_calls wr_X12_calls I0 R0 I' R0 ∧ True)) := by
  refine ConE.of (by decide +kernel) rfl (Nat.le_of_ble_eq_true rfl) rfl (fun X hX hZ hE => ?_)
  subst hX
  have hS0 : St T cn K N d wi_X12_calls wr_X12_calls I0 R0 I0 R0 := St.rf0 hW0
  rcases rf15_3 hW0 ta0 with d2 | ⟨a1, d2, ta1⟩
  · skip
    refine tr_aload_n dX12_calls_0 rfl ?_
    refine q_iconst dX12_calls_1 (by decide) ?_
    intro v3 h4
    refine q_putI dX12_calls_2 fl12_70 (kR15 hS0.1 ta0) (Or.inl rfl) hS0 ta0 (iokF rfl) rfl (by decide +kernel) ?_
    intro I5 hS6 e7 f8
    refine tr_aload_n dX12_calls_5 rfl ?_
    refine tr_getN dX12_calls_6 fl12_385 (kR15 hS6.1 ta0) d2 ?_
    refine tr_ifnonnullN dX12_calls_9 ?_
    refine tr_aload_n dX12_calls_12 rfl ?_
    refine q_iconst dX12_calls_13 (by decide) ?_
    intro v9 h10
    refine q_callVi hE (M' := mX12_refused) (as := [_]) dX12_calls_14 lk12_76 inX12_refused seX12_refused myX12_refused (by decide) ⟨by decide, by decide⟩ rfl (kR15 hS6.1 ta0) (Nat.le_of_ble_eq_true rfl) rfl rfl (by decide) (by decide) (k_X12_refused hS6.1 ta0) ?_
    rintro v15 cn' K' N' I11 R12 L13 ⟨rfl, rfl, rfl, rfl, rfl, g14, -⟩
    have hS16 := hS6.tr g14 (by decide +kernel) (by decide +kernel)
    have c17 : I11 a0 0 = v3 := (g14.cell ta0 (by decide +kernel)).trans e7
    refine tr_goto 30 dX12_calls_17 (by decide) ?_
    exact tr_iret hZ dX12_calls_30 rfl (by decide) (by decide) ⟨v15, rfl, rfl, rfl, rfl, rfl, rfl, hS16, trivial⟩
  · skip
    refine tr_aload_n dX12_calls_0 rfl ?_
    refine q_iconst dX12_calls_1 (by decide) ?_
    intro v18 h19
    refine q_putI dX12_calls_2 fl12_70 (kR15 hS0.1 ta0) (Or.inl rfl) hS0 ta0 (iokF rfl) rfl (by decide +kernel) ?_
    intro I20 hS21 e22 f23
    refine tr_aload_n dX12_calls_5 rfl ?_
    refine tr_getR dX12_calls_6 fl12_385 (kR15 hS21.1 ta0) d2 ?_
    refine tr_ifnonnull 20 dX12_calls_9 (by decide) ?_
    refine tr_aload_n dX12_calls_20 rfl ?_
    refine tr_aload_n dX12_calls_21 rfl ?_
    obtain ⟨a24, d25, ta24⟩ := rf15_16 hW0 ta0
    refine tr_getR dX12_calls_22 fl12_17 (kR15 hS21.1 ta0) d25 ?_
    refine q_iconst dX12_calls_25 (by decide) ?_
    intro v26 h27
    obtain ⟨v28, c29⟩ : ∃ v, I0 a24 0 = v := ⟨_, rfl⟩
    refine q_iald dX12_calls_26 (kR77 hS21.1 ta24) (ti_in (nR77 hS21.1 ta24) (by omega) (by omega)) ?_
    intro v30 c31
    rw [show v26.toNatClampNeg = 0 from ti_cl (by omega)] at c31
    obtain rfl : v28 = v30 := (((hS21.cell ta24 (by decide +kernel)).trans c29)).symm.trans c31
    refine q_callVi hE (M' := mX12_good) (as := [_]) dX12_calls_27 lk12_81 inX12_good seX12_good myX12_good (by decide) ⟨by decide, by decide⟩ rfl (kR15 hS21.1 ta0) (Nat.le_of_ble_eq_true rfl) rfl rfl (by decide) (by decide) (k_X12_good hS21.1 ta0) ?_
    rintro v36 cn' K' N' I32 R33 L34 ⟨rfl, rfl, rfl, rfl, rfl, g35, -⟩
    have hS37 := hS21.tr g35 (by decide +kernel) (by decide +kernel)
    have c38 : I32 a0 0 = v18 := (g35.cell ta0 (by decide +kernel)).trans e22
    exact tr_iret hZ dX12_calls_30 rfl (by decide) (by decide) ⟨v36, rfl, rfl, rfl, rfl, rfl, rfl, hS37, trivial⟩
def wi_X12_cloud : List Nat := [960, 961, 962, 979, 4991, 5055]
def wr_X12_cloud : List Nat := []
set_option maxHeartbeats 4000000 in
theorem k_X12_cloud {l : Launch} {T : Nat → Nat} {cn : Nat} {K N : Nat → Nat} {I0 : cz_I} {R0 : cz_R} {L0 : cz_L} {d : Int} (hW0 : Wf T cn K N I0 R0 d) {a0 : Nat} (ta0 : T a0 = 15) {x1 : Int32} {x2 : Int32} : ConE l mX12_cloud [.ref a0, .int x1, .int x2] cn K N I0 R0 L0 (ca_i (fun v cn' K' N' I' R' L' => cn = cn' ∧ K = K' ∧ N = N' ∧ R0 = R' ∧ L0 = L' ∧ St T cn K N d wi_X12_cloud wr_X12_cloud I0 R0 I' R0 ∧ (0 ≤ v.toInt ∧ v.toInt ≤ 1) ∧ True)) := by
  refine ConE.of (by decide +kernel) rfl (Nat.le_of_ble_eq_true rfl) rfl (fun X hX hZ hE => ?_)
  subst hX
  have hS0 : St T cn K N d wi_X12_cloud wr_X12_cloud I0 R0 I0 R0 := St.rf0 hW0
  rcases rf15_3 hW0 ta0 with d2 | ⟨a1, d2, ta1⟩
  · skip
    refine tr_aload_n dX12_cloud_0 rfl ?_
    refine q_iconst dX12_cloud_1 (by decide) ?_
    intro v3 h4
    refine q_putI dX12_cloud_2 fl12_70 (kR15 hS0.1 ta0) (Or.inl rfl) hS0 ta0 (iokF rfl) rfl (by decide +kernel) ?_
    intro I5 hS6 e7 f8
    refine tr_aload_n dX12_cloud_5 rfl ?_
    refine tr_getN dX12_cloud_6 fl12_385 (kR15 hS6.1 ta0) d2 ?_
    refine tr_ifnonnullN dX12_cloud_9 ?_
    refine tr_aload_n dX12_cloud_12 rfl ?_
    refine q_iconst dX12_cloud_13 (by decide) ?_
    intro v9 h10
    refine q_callVi hE (M' := mX12_denied) (as := [_]) dX12_cloud_14 lk12_507 inX12_denied seX12_denied myX12_denied (by decide) ⟨by decide, by decide⟩ rfl (kR15 hS6.1 ta0) (Nat.le_of_ble_eq_true rfl) rfl rfl (by decide) (by decide) (k_X12_denied hS6.1 ta0) ?_
    rintro v15 cn' K' N' I11 R12 L13 ⟨rfl, rfl, rfl, rfl, rfl, g14, h16, -⟩
    have hS17 := hS6.tr g14 (by decide +kernel) (by decide +kernel)
    have c18 : I11 a0 0 = v3 := (g14.cell ta0 (by decide +kernel)).trans e7
    exact tr_zret hZ dX12_cloud_17 rfl (ti_b01 (by omega) (by omega)) (by decide) (by decide) ⟨v15, rfl, rfl, rfl, rfl, rfl, rfl, hS17, (by omega), trivial⟩
  · skip
    refine tr_aload_n dX12_cloud_0 rfl ?_
    refine q_iconst dX12_cloud_1 (by decide) ?_
    intro v19 h20
    refine q_putI dX12_cloud_2 fl12_70 (kR15 hS0.1 ta0) (Or.inl rfl) hS0 ta0 (iokF rfl) rfl (by decide +kernel) ?_
    intro I21 hS22 e23 f24
    refine tr_aload_n dX12_cloud_5 rfl ?_
    refine tr_getR dX12_cloud_6 fl12_385 (kR15 hS22.1 ta0) d2 ?_
    refine tr_ifnonnull 18 dX12_cloud_9 (by decide) ?_
    refine tr_aload_n dX12_cloud_18 rfl ?_
    refine tr_iload_n dX12_cloud_19 rfl ?_
    refine q_callVi hE (M' := mX12_isMinute) (as := [_]) dX12_cloud_20 lk12_443 inX12_isMinute seX12_isMinute myX12_isMinute (by decide) ⟨by decide, by decide⟩ rfl (kR15 hS22.1 ta0) (Nat.le_of_ble_eq_true rfl) rfl rfl (by decide) (by decide) (k_X12_isMinute hS22.1 ta0 ⟨_, d2⟩) ?_
    rintro v29 cn' K' N' I25 R26 L27 ⟨rfl, rfl, rfl, rfl, rfl, rfl, h30, p31, -⟩
    have p32 := p31
    refine q_if_eq 43 dX12_cloud_23 (by decide) (fun h33 => ?_) (fun h33 => ?_)
    · skip
      refine tr_aload_n dX12_cloud_43 rfl ?_
      refine q_iconst dX12_cloud_44 (by decide) ?_
      intro v34 h35
      refine q_callVi hE (M' := mX12_denied) (as := [_]) dX12_cloud_45 lk12_507 inX12_denied seX12_denied myX12_denied (by decide) ⟨by decide, by decide⟩ rfl (kR15 hS22.1 ta0) (Nat.le_of_ble_eq_true rfl) rfl rfl (by decide) (by decide) (k_X12_denied hS22.1 ta0) ?_
      rintro v40 cn' K' N' I36 R37 L38 ⟨rfl, rfl, rfl, rfl, rfl, g39, h41, -⟩
      have hS42 := hS22.tr g39 (by decide +kernel) (by decide +kernel)
      have c43 : I36 a0 0 = v19 := (g39.cell ta0 (by decide +kernel)).trans e23
      exact tr_zret hZ dX12_cloud_48 rfl (ti_b01 (by omega) (by omega)) (by decide) (by decide) ⟨v40, rfl, rfl, rfl, rfl, rfl, rfl, hS42, (by omega), trivial⟩
    · skip
      refine tr_iload_n dX12_cloud_26 rfl ?_
      refine tr_iload_n dX12_cloud_27 rfl ?_
      refine q_iconst dX12_cloud_28 (by decide) ?_
      intro v44 h45
      refine q_iaddE dX12_cloud_29 (by intros; omega) ?_
      intro v46 h47
      refine tr_aload_n dX12_cloud_30 rfl ?_
      refine tr_getR dX12_cloud_31 fl12_385 (kR15 hS22.1 ta0) d2 ?_
      obtain ⟨v48, c49⟩ : ∃ v, I0 a1 0 = v := ⟨_, rfl⟩
      have b50 := hW0.2.2.2.2.2.1 a0 ta0 _ d2
      rw [c49] at b50
      have b51 := iv14_0 hW0 ta1 c49
      refine q_getI dX12_cloud_34 fl12_192 (kR14 hS22.1 ta1) ((hS22.cell ta1 (by decide +kernel)).trans c49) ?_
      refine q_callSi hE (M' := mX12_in) (as := [_, _, _]) dX12_cloud_37 lk12_149 inX12_in myX12_in ⟨by decide, by decide⟩ rfl (Nat.le_of_ble_eq_true rfl) rfl rfl (by decide) (by decide) (k_X12_in hS22.1 ) ?_
      rintro v56 cn' K' N' I52 R53 L54 ⟨rfl, rfl, rfl, rfl, rfl, rfl, h57, p58, p59, -⟩
      have p60 := p58
      have p61 := p59
      refine q_if_ne 49 dX12_cloud_40 (by decide) (fun h62 => ?_) (fun h62 => ?_)
      · skip
        refine tr_aload_n dX12_cloud_49 rfl ?_
        obtain ⟨a63, d64, ta63⟩ := rf15_16 hW0 ta0
        refine tr_getR dX12_cloud_50 fl12_17 (kR15 hS22.1 ta0) d64 ?_
        refine q_iconst dX12_cloud_53 (by decide) ?_
        intro v65 h66
        obtain ⟨v67, c68⟩ : ∃ v, I21 a63 1 = v := ⟨_, rfl⟩
        have b69 := iv77_1 hS22.1 ta63 (by decide) c68
        refine q_iald dX12_cloud_54 (kR77 hS22.1 ta63) (ti_in (nR77 hS22.1 ta63) (by omega) (by omega)) ?_
        intro v70 c71
        rw [show v65.toNatClampNeg = 1 from ti_cl (by omega)] at c71
        obtain rfl : v67 = v70 := (c68).symm.trans c71
        refine q_bipush dX12_cloud_55 (by decide +kernel) ?_
        intro v72 h73
        refine q_icmp_ne 66 dX12_cloud_57 (by decide) (fun h74 => ?_) (fun h74 => ?_)
        · skip
          refine tr_aload_n dX12_cloud_66 rfl ?_
          refine q_callVv hE (M' := mX12_keeps) (as := []) dX12_cloud_67 lk12_510 inX12_keeps seX12_keeps myX12_keeps (by decide) ⟨by decide, by decide⟩ rfl (kR15 hS22.1 ta0) (Nat.le_of_ble_eq_true rfl) rfl rfl (by decide) (by decide) (k_X12_keeps hS22.1 ta0) ?_
          rintro cn' K' N' I75 R76 L77 ⟨rfl, rfl, rfl, rfl, rfl, g78, -⟩
          have hS80 := hS22.tr g78 (by decide +kernel) (by decide +kernel)
          have c81 : I75 a0 0 = v19 := (g78.cell ta0 (by decide +kernel)).trans e23
          have c82 : I75 a63 1 = v67 := (g78.cell ta63 (by decide +kernel)).trans c68
          refine tr_aload_n dX12_cloud_70 rfl ?_
          refine tr_iload_n dX12_cloud_71 rfl ?_
          refine tr_iload_n dX12_cloud_72 rfl ?_
          refine q_callVv hE (M' := mX12_comes) (as := [_, _]) dX12_cloud_73 lk12_500 inX12_comes seX12_comes myX12_comes (by decide) ⟨by decide, by decide⟩ rfl (kR15 hS80.1 ta0) (Nat.le_of_ble_eq_true rfl) rfl rfl (by decide) (by decide) (k_X12_comes hS80.1 ta0 (by omega) (by omega) (fun q0 z0 => by obtain rfl := Option.some.inj ((d64).symm.trans z0); (try rw [c82]); (try omega))) ?_
          rintro cn' K' N' I83 R84 L85 ⟨rfl, rfl, rfl, rfl, rfl, g86, p88, -⟩
          have hS89 := hS80.tr g86 (by decide +kernel) (by decide +kernel)
          have c90 : I83 a0 0 = v19 := (g86.cell ta0 (by decide +kernel)).trans c81
          obtain ⟨v91, c92⟩ : ∃ v, I83 a63 1 = v := ⟨_, rfl⟩
          have b93 := iv77_1 hS89.1 ta63 (by decide) c92
          have p94 := p88 _ d64
          rw [c92] at p94
          rw [c82] at p94
          refine tr_aload_n dX12_cloud_76 rfl ?_
          refine q_callVi hE (M' := mX12_granted) (as := []) dX12_cloud_77 lk12_513 inX12_granted seX12_granted myX12_granted (by decide) ⟨by decide, by decide⟩ rfl (kR15 hS89.1 ta0) (Nat.le_of_ble_eq_true rfl) rfl rfl (by decide) (by decide) (k_X12_granted hS89.1 ta0) ?_
          rintro v99 cn' K' N' I95 R96 L97 ⟨rfl, rfl, rfl, rfl, rfl, g98, h100, -⟩
          have hS101 := hS89.tr g98 (by decide +kernel) (by decide +kernel)
          have c102 : I95 a0 0 = v19 := (g98.cell ta0 (by decide +kernel)).trans c90
          have c103 : I95 a63 1 = v91 := (g98.cell ta63 (by decide +kernel)).trans c92
          exact tr_zret hZ dX12_cloud_80 rfl (ti_b01 (by omega) (by omega)) (by decide) (by decide) ⟨v99, rfl, rfl, rfl, rfl, rfl, rfl, hS101, (by omega), trivial⟩
        · skip
          refine tr_aload_n dX12_cloud_60 rfl ?_
          refine q_iconst dX12_cloud_61 (by decide) ?_
          intro v104 h105
          refine q_callVi hE (M' := mX12_denied) (as := [_]) dX12_cloud_62 lk12_507 inX12_denied seX12_denied myX12_denied (by decide) ⟨by decide, by decide⟩ rfl (kR15 hS22.1 ta0) (Nat.le_of_ble_eq_true rfl) rfl rfl (by decide) (by decide) (k_X12_denied hS22.1 ta0) ?_
          rintro v110 cn' K' N' I106 R107 L108 ⟨rfl, rfl, rfl, rfl, rfl, g109, h111, -⟩
          have hS112 := hS22.tr g109 (by decide +kernel) (by decide +kernel)
          have c113 : I106 a0 0 = v19 := (g109.cell ta0 (by decide +kernel)).trans e23
          have c114 : I106 a63 1 = v67 := (g109.cell ta63 (by decide +kernel)).trans c68
          exact tr_zret hZ dX12_cloud_65 rfl (ti_b01 (by omega) (by omega)) (by decide) (by decide) ⟨v110, rfl, rfl, rfl, rfl, rfl, rfl, hS112, (by omega), trivial⟩
      · skip
        refine tr_aload_n dX12_cloud_43 rfl ?_
        refine q_iconst dX12_cloud_44 (by decide) ?_
        intro v115 h116
        refine q_callVi hE (M' := mX12_denied) (as := [_]) dX12_cloud_45 lk12_507 inX12_denied seX12_denied myX12_denied (by decide) ⟨by decide, by decide⟩ rfl (kR15 hS22.1 ta0) (Nat.le_of_ble_eq_true rfl) rfl rfl (by decide) (by decide) (k_X12_denied hS22.1 ta0) ?_
        rintro v121 cn' K' N' I117 R118 L119 ⟨rfl, rfl, rfl, rfl, rfl, g120, h122, -⟩
        have hS123 := hS22.tr g120 (by decide +kernel) (by decide +kernel)
        have c124 : I117 a0 0 = v19 := (g120.cell ta0 (by decide +kernel)).trans e23
        exact tr_zret hZ dX12_cloud_48 rfl (ti_b01 (by omega) (by omega)) (by decide) (by decide) ⟨v121, rfl, rfl, rfl, rfl, rfl, rfl, hS123, (by omega), trivial⟩
def wi_X12_draw : List Nat := [960, 961, 962, 979, 4991, 5055]
def wr_X12_draw : List Nat := []
set_option maxHeartbeats 4000000 in
theorem k_X12_draw {l : Launch} {T : Nat → Nat} {cn : Nat} {K N : Nat → Nat} {I0 : cz_I} {R0 : cz_R} {L0 : cz_L} {d : Int} (hW0 : Wf T cn K N I0 R0 d) {a0 : Nat} (ta0 : T a0 = 15) : ConE l mX12_draw [.ref a0] cn K N I0 R0 L0 (ca_i (fun v cn' K' N' I' R' L' => cn = cn' ∧ K = K' ∧ N = N' ∧ R0 = R' ∧ L0 = L' ∧ St T cn K N d wi_X12_draw wr_X12_draw I0 R0 I' R0 ∧ True)) := by
  refine ConE.of (by decide +kernel) rfl (Nat.le_of_ble_eq_true rfl) rfl (fun X hX hZ hE => ?_)
  subst hX
  have hS0 : St T cn K N d wi_X12_draw wr_X12_draw I0 R0 I0 R0 := St.rf0 hW0
  rcases rf15_3 hW0 ta0 with d2 | ⟨a1, d2, ta1⟩
  · skip
    refine tr_aload_n dX12_draw_0 rfl ?_
    refine q_iconst dX12_draw_1 (by decide) ?_
    intro v3 h4
    refine q_putI dX12_draw_2 fl12_70 (kR15 hS0.1 ta0) (Or.inl rfl) hS0 ta0 (iokF rfl) rfl (by decide +kernel) ?_
    intro I5 hS6 e7 f8
    refine tr_aload_n dX12_draw_5 rfl ?_
    refine tr_getN dX12_draw_6 fl12_385 (kR15 hS6.1 ta0) d2 ?_
    refine tr_ifnonnullN dX12_draw_9 ?_
    refine tr_aload_n dX12_draw_12 rfl ?_
    refine q_iconst dX12_draw_13 (by decide) ?_
    intro v9 h10
    refine q_callVi hE (M' := mX12_refused) (as := [_]) dX12_draw_14 lk12_76 inX12_refused seX12_refused myX12_refused (by decide) ⟨by decide, by decide⟩ rfl (kR15 hS6.1 ta0) (Nat.le_of_ble_eq_true rfl) rfl rfl (by decide) (by decide) (k_X12_refused hS6.1 ta0) ?_
    rintro v15 cn' K' N' I11 R12 L13 ⟨rfl, rfl, rfl, rfl, rfl, g14, -⟩
    have hS16 := hS6.tr g14 (by decide +kernel) (by decide +kernel)
    have c17 : I11 a0 0 = v3 := (g14.cell ta0 (by decide +kernel)).trans e7
    exact tr_iret hZ dX12_draw_17 rfl (by decide) (by decide) ⟨v15, rfl, rfl, rfl, rfl, rfl, rfl, hS16, trivial⟩
  · skip
    refine tr_aload_n dX12_draw_0 rfl ?_
    refine q_iconst dX12_draw_1 (by decide) ?_
    intro v18 h19
    refine q_putI dX12_draw_2 fl12_70 (kR15 hS0.1 ta0) (Or.inl rfl) hS0 ta0 (iokF rfl) rfl (by decide +kernel) ?_
    intro I20 hS21 e22 f23
    refine tr_aload_n dX12_draw_5 rfl ?_
    refine tr_getR dX12_draw_6 fl12_385 (kR15 hS21.1 ta0) d2 ?_
    refine tr_ifnonnull 18 dX12_draw_9 (by decide) ?_
    refine tr_aload_n dX12_draw_18 rfl ?_
    obtain ⟨a24, d25, ta24⟩ := rf15_16 hW0 ta0
    refine tr_getR dX12_draw_19 fl12_17 (kR15 hS21.1 ta0) d25 ?_
    refine q_iconst dX12_draw_22 (by decide) ?_
    intro v26 h27
    obtain ⟨v28, c29⟩ : ∃ v, I20 a24 1 = v := ⟨_, rfl⟩
    have b30 := iv77_1 hS21.1 ta24 (by decide) c29
    refine q_iald dX12_draw_23 (kR77 hS21.1 ta24) (ti_in (nR77 hS21.1 ta24) (by omega) (by omega)) ?_
    intro v31 c32
    rw [show v26.toNatClampNeg = 1 from ti_cl (by omega)] at c32
    obtain rfl : v28 = v31 := (c29).symm.trans c32
    refine q_bipush dX12_draw_24 (by decide +kernel) ?_
    intro v33 h34
    refine q_icmp_ne 35 dX12_draw_26 (by decide) (fun h35 => ?_) (fun h35 => ?_)
    · skip
      refine tr_aload_n dX12_draw_35 rfl ?_
      refine q_callVv hE (M' := mX12_keeps) (as := []) dX12_draw_36 lk12_510 inX12_keeps seX12_keeps myX12_keeps (by decide) ⟨by decide, by decide⟩ rfl (kR15 hS21.1 ta0) (Nat.le_of_ble_eq_true rfl) rfl rfl (by decide) (by decide) (k_X12_keeps hS21.1 ta0) ?_
      rintro cn' K' N' I36 R37 L38 ⟨rfl, rfl, rfl, rfl, rfl, g39, -⟩
      have hS41 := hS21.tr g39 (by decide +kernel) (by decide +kernel)
      have c42 : I36 a0 0 = v18 := (g39.cell ta0 (by decide +kernel)).trans e22
      have c43 : I36 a24 1 = v28 := (g39.cell ta24 (by decide +kernel)).trans c29
      refine tr_aload_n dX12_draw_39 rfl ?_
      refine tr_aload_n dX12_draw_40 rfl ?_
      refine q_callVi hE (M' := mX12_draws) (as := []) dX12_draw_41 lk12_504 inX12_draws seX12_draws myX12_draws (by decide) ⟨by decide, by decide⟩ rfl (kR15 hS41.1 ta0) (Nat.le_of_ble_eq_true rfl) rfl rfl (by decide) (by decide) (k_X12_draws hS41.1 ta0 (fun q0 z0 => by obtain rfl := Option.some.inj ((d25).symm.trans z0); (try rw [c43]); (try omega)) ⟨_, d2⟩) ?_
      rintro v48 cn' K' N' I44 R45 L46 ⟨rfl, rfl, rfl, rfl, rfl, g47, h49, p50, -⟩
      have hS51 := hS41.tr g47 (by decide +kernel) (by decide +kernel)
      have c52 : I44 a0 0 = v18 := (g47.cell ta0 (by decide +kernel)).trans c42
      obtain ⟨v53, c54⟩ : ∃ v, I44 a24 1 = v := ⟨_, rfl⟩
      have b55 := iv77_1 hS51.1 ta24 (by decide) c54
      have p56 := p50 _ d25
      rw [c54] at p56
      rw [c43] at p56
      refine q_callVi hE (M' := mX12_good) (as := [_]) dX12_draw_44 lk12_81 inX12_good seX12_good myX12_good (by decide) ⟨by decide, by decide⟩ rfl (kR15 hS51.1 ta0) (Nat.le_of_ble_eq_true rfl) rfl rfl (by decide) (by decide) (k_X12_good hS51.1 ta0) ?_
      rintro v61 cn' K' N' I57 R58 L59 ⟨rfl, rfl, rfl, rfl, rfl, g60, -⟩
      have hS62 := hS51.tr g60 (by decide +kernel) (by decide +kernel)
      have c63 : I57 a0 0 = v18 := (g60.cell ta0 (by decide +kernel)).trans c52
      have c64 : I57 a24 1 = v53 := (g60.cell ta24 (by decide +kernel)).trans c54
      exact tr_iret hZ dX12_draw_47 rfl (by decide) (by decide) ⟨v61, rfl, rfl, rfl, rfl, rfl, rfl, hS62, trivial⟩
    · skip
      refine tr_aload_n dX12_draw_29 rfl ?_
      refine q_iconst dX12_draw_30 (by decide) ?_
      intro v65 h66
      refine q_callVi hE (M' := mX12_refused) (as := [_]) dX12_draw_31 lk12_76 inX12_refused seX12_refused myX12_refused (by decide) ⟨by decide, by decide⟩ rfl (kR15 hS21.1 ta0) (Nat.le_of_ble_eq_true rfl) rfl rfl (by decide) (by decide) (k_X12_refused hS21.1 ta0) ?_
      rintro v71 cn' K' N' I67 R68 L69 ⟨rfl, rfl, rfl, rfl, rfl, g70, -⟩
      have hS72 := hS21.tr g70 (by decide +kernel) (by decide +kernel)
      have c73 : I67 a0 0 = v18 := (g70.cell ta0 (by decide +kernel)).trans e22
      have c74 : I67 a24 1 = v28 := (g70.cell ta24 (by decide +kernel)).trans c29
      exact tr_iret hZ dX12_draw_34 rfl (by decide) (by decide) ⟨v71, rfl, rfl, rfl, rfl, rfl, rfl, hS72, trivial⟩
def wi_X12_lift : List Nat := [960, 961, 962, 979, 4991, 5055]
def wr_X12_lift : List Nat := []
set_option maxHeartbeats 4000000 in
theorem k_X12_lift {l : Launch} {T : Nat → Nat} {cn : Nat} {K N : Nat → Nat} {I0 : cz_I} {R0 : cz_R} {L0 : cz_L} {d : Int} (hW0 : Wf T cn K N I0 R0 d) {a0 : Nat} (ta0 : T a0 = 15) : ConE l mX12_lift [.ref a0] cn K N I0 R0 L0 (ca_i (fun v cn' K' N' I' R' L' => cn = cn' ∧ K = K' ∧ N = N' ∧ R0 = R' ∧ L0 = L' ∧ St T cn K N d wi_X12_lift wr_X12_lift I0 R0 I' R0 ∧ (0 ≤ v.toInt ∧ v.toInt ≤ 1) ∧ True)) := by
  refine ConE.of (by decide +kernel) rfl (Nat.le_of_ble_eq_true rfl) rfl (fun X hX hZ hE => ?_)
  subst hX
  have hS0 : St T cn K N d wi_X12_lift wr_X12_lift I0 R0 I0 R0 := St.rf0 hW0
  rcases rf15_3 hW0 ta0 with d2 | ⟨a1, d2, ta1⟩
  · skip
    refine tr_aload_n dX12_lift_0 rfl ?_
    refine q_iconst dX12_lift_1 (by decide) ?_
    intro v3 h4
    refine q_putI dX12_lift_2 fl12_70 (kR15 hS0.1 ta0) (Or.inl rfl) hS0 ta0 (iokF rfl) rfl (by decide +kernel) ?_
    intro I5 hS6 e7 f8
    refine tr_aload_n dX12_lift_5 rfl ?_
    refine tr_getN dX12_lift_6 fl12_385 (kR15 hS6.1 ta0) d2 ?_
    refine tr_ifnullN 21 dX12_lift_9 (by decide) ?_
    refine tr_aload_n dX12_lift_21 rfl ?_
    refine q_bipush dX12_lift_22 (by decide +kernel) ?_
    intro v9 h10
    refine q_callVi hE (M' := mX12_denied) (as := [_]) dX12_lift_24 lk12_507 inX12_denied seX12_denied myX12_denied (by decide) ⟨by decide, by decide⟩ rfl (kR15 hS6.1 ta0) (Nat.le_of_ble_eq_true rfl) rfl rfl (by decide) (by decide) (k_X12_denied hS6.1 ta0) ?_
    rintro v15 cn' K' N' I11 R12 L13 ⟨rfl, rfl, rfl, rfl, rfl, g14, h16, -⟩
    have hS17 := hS6.tr g14 (by decide +kernel) (by decide +kernel)
    have c18 : I11 a0 0 = v3 := (g14.cell ta0 (by decide +kernel)).trans e7
    exact tr_zret hZ dX12_lift_27 rfl (ti_b01 (by omega) (by omega)) (by decide) (by decide) ⟨v15, rfl, rfl, rfl, rfl, rfl, rfl, hS17, (by omega), trivial⟩
  · skip
    refine tr_aload_n dX12_lift_0 rfl ?_
    refine q_iconst dX12_lift_1 (by decide) ?_
    intro v19 h20
    refine q_putI dX12_lift_2 fl12_70 (kR15 hS0.1 ta0) (Or.inl rfl) hS0 ta0 (iokF rfl) rfl (by decide +kernel) ?_
    intro I21 hS22 e23 f24
    refine tr_aload_n dX12_lift_5 rfl ?_
    refine tr_getR dX12_lift_6 fl12_385 (kR15 hS22.1 ta0) d2 ?_
    refine tr_ifnull dX12_lift_9 ?_
    refine tr_aload_n dX12_lift_12 rfl ?_
    obtain ⟨a25, d26, ta25⟩ := rf15_16 hW0 ta0
    refine tr_getR dX12_lift_13 fl12_17 (kR15 hS22.1 ta0) d26 ?_
    refine q_iconst dX12_lift_16 (by decide) ?_
    intro v27 h28
    obtain ⟨v29, c30⟩ : ∃ v, I21 a25 1 = v := ⟨_, rfl⟩
    have b31 := iv77_1 hS22.1 ta25 (by decide) c30
    refine q_iald dX12_lift_17 (kR77 hS22.1 ta25) (ti_in (nR77 hS22.1 ta25) (by omega) (by omega)) ?_
    intro v32 c33
    rw [show v27.toNatClampNeg = 1 from ti_cl (by omega)] at c33
    obtain rfl : v29 = v32 := (c30).symm.trans c33
    refine q_if_ne 28 dX12_lift_18 (by decide) (fun h34 => ?_) (fun h34 => ?_)
    · skip
      refine tr_aload_n dX12_lift_28 rfl ?_
      refine q_callVv hE (M' := mX12_keeps) (as := []) dX12_lift_29 lk12_510 inX12_keeps seX12_keeps myX12_keeps (by decide) ⟨by decide, by decide⟩ rfl (kR15 hS22.1 ta0) (Nat.le_of_ble_eq_true rfl) rfl rfl (by decide) (by decide) (k_X12_keeps hS22.1 ta0) ?_
      rintro cn' K' N' I35 R36 L37 ⟨rfl, rfl, rfl, rfl, rfl, g38, -⟩
      have hS40 := hS22.tr g38 (by decide +kernel) (by decide +kernel)
      have c41 : I35 a0 0 = v19 := (g38.cell ta0 (by decide +kernel)).trans e23
      have c42 : I35 a25 1 = v29 := (g38.cell ta25 (by decide +kernel)).trans c30
      refine tr_aload_n dX12_lift_32 rfl ?_
      refine tr_getR dX12_lift_33 fl12_17 (kR15 hS40.1 ta0) d26 ?_
      refine q_iconst dX12_lift_36 (by decide) ?_
      intro v43 h44
      refine tr_dup2 dX12_lift_37 rfl rfl ?_
      refine q_iald dX12_lift_38 (kR77 hS40.1 ta25) (ti_in (nR77 hS40.1 ta25) (by omega) (by omega)) ?_
      intro v45 c46
      rw [show v43.toNatClampNeg = 1 from ti_cl (by omega)] at c46
      obtain rfl : v29 = v45 := (c42).symm.trans c46
      refine q_iconst dX12_lift_39 (by decide) ?_
      intro v47 h48
      refine q_isubE dX12_lift_40 (by intros; omega) ?_
      intro v49 h50
      refine q_iast dX12_lift_41 (kR77 hS40.1 ta25) (ti_in (nR77 hS40.1 ta25) (by omega) (by omega)) hS40 ta25 (iok_w1 rfl (by have q := ti_nat (i := v43) (by omega); omega) (by omega)) rfl (by rfl) ?_
      intro I51 hS52 e54 f53
      have c55 : I51 a0 0 = v19 := (f53 _ _ (fun q => by have z := ti_nat (i := v43) (by omega); omega)).trans c41
      rw [show v43.toNatClampNeg = 1 from ti_cl (by omega)] at e54
      refine tr_aload_n dX12_lift_42 rfl ?_
      refine q_callVi hE (M' := mX12_granted) (as := []) dX12_lift_43 lk12_513 inX12_granted seX12_granted myX12_granted (by decide) ⟨by decide, by decide⟩ rfl (kR15 hS52.1 ta0) (Nat.le_of_ble_eq_true rfl) rfl rfl (by decide) (by decide) (k_X12_granted hS52.1 ta0) ?_
      rintro v60 cn' K' N' I56 R57 L58 ⟨rfl, rfl, rfl, rfl, rfl, g59, h61, -⟩
      have hS62 := hS52.tr g59 (by decide +kernel) (by decide +kernel)
      have c63 : I56 a0 0 = v19 := (g59.cell ta0 (by decide +kernel)).trans c55
      have c64 : I56 a25 1 = v49 := (g59.cell ta25 (by decide +kernel)).trans e54
      exact tr_zret hZ dX12_lift_46 rfl (ti_b01 (by omega) (by omega)) (by decide) (by decide) ⟨v60, rfl, rfl, rfl, rfl, rfl, rfl, hS62, (by omega), trivial⟩
    · skip
      refine tr_aload_n dX12_lift_21 rfl ?_
      refine q_bipush dX12_lift_22 (by decide +kernel) ?_
      intro v65 h66
      refine q_callVi hE (M' := mX12_denied) (as := [_]) dX12_lift_24 lk12_507 inX12_denied seX12_denied myX12_denied (by decide) ⟨by decide, by decide⟩ rfl (kR15 hS22.1 ta0) (Nat.le_of_ble_eq_true rfl) rfl rfl (by decide) (by decide) (k_X12_denied hS22.1 ta0) ?_
      rintro v71 cn' K' N' I67 R68 L69 ⟨rfl, rfl, rfl, rfl, rfl, g70, h72, -⟩
      have hS73 := hS22.tr g70 (by decide +kernel) (by decide +kernel)
      have c74 : I67 a0 0 = v19 := (g70.cell ta0 (by decide +kernel)).trans e23
      have c75 : I67 a25 1 = v29 := (g70.cell ta25 (by decide +kernel)).trans c30
      exact tr_zret hZ dX12_lift_27 rfl (ti_b01 (by omega) (by omega)) (by decide) (by decide) ⟨v71, rfl, rfl, rfl, rfl, rfl, rfl, hS73, (by omega), trivial⟩
def wi_X12_seed : List Nat := [960, 961, 962, 4991]
def wr_X12_seed : List Nat := []
set_option maxHeartbeats 4000000 in
theorem k_X12_seed {l : Launch} {T : Nat → Nat} {cn : Nat} {K N : Nat → Nat} {I0 : cz_I} {R0 : cz_R} {L0 : cz_L} {d : Int} (hW0 : Wf T cn K N I0 R0 d) {a0 : Nat} (ta0 : T a0 = 15) {x1 : Int32} : ConE l mX12_seed [.ref a0, .int x1] cn K N I0 R0 L0 (ca_i (fun v cn' K' N' I' R' L' => cn = cn' ∧ K = K' ∧ N = N' ∧ R0 = R' ∧ L0 = L' ∧ St T cn K N d wi_X12_seed wr_X12_seed I0 R0 I' R0 ∧ (0 ≤ v.toInt ∧ v.toInt ≤ 1) ∧ True)) := by
  refine ConE.of (by decide +kernel) rfl (Nat.le_of_ble_eq_true rfl) rfl (fun X hX hZ hE => ?_)
  subst hX
  have hS0 : St T cn K N d wi_X12_seed wr_X12_seed I0 R0 I0 R0 := St.rf0 hW0
  rcases rf15_3 hW0 ta0 with d2 | ⟨a1, d2, ta1⟩
  · skip
    refine tr_aload_n dX12_seed_0 rfl ?_
    refine q_iconst dX12_seed_1 (by decide) ?_
    intro v3 h4
    refine q_putI dX12_seed_2 fl12_70 (kR15 hS0.1 ta0) (Or.inl rfl) hS0 ta0 (iokF rfl) rfl (by decide +kernel) ?_
    intro I5 hS6 e7 f8
    refine tr_aload_n dX12_seed_5 rfl ?_
    refine tr_getN dX12_seed_6 fl12_385 (kR15 hS6.1 ta0) d2 ?_
    refine tr_ifnonnullN dX12_seed_9 ?_
    refine tr_aload_n dX12_seed_12 rfl ?_
    refine q_iconst dX12_seed_13 (by decide) ?_
    intro v9 h10
    refine q_callVi hE (M' := mX12_denied) (as := [_]) dX12_seed_14 lk12_507 inX12_denied seX12_denied myX12_denied (by decide) ⟨by decide, by decide⟩ rfl (kR15 hS6.1 ta0) (Nat.le_of_ble_eq_true rfl) rfl rfl (by decide) (by decide) (k_X12_denied hS6.1 ta0) ?_
    rintro v15 cn' K' N' I11 R12 L13 ⟨rfl, rfl, rfl, rfl, rfl, g14, h16, -⟩
    have hS17 := hS6.tr g14 (by decide +kernel) (by decide +kernel)
    have c18 : I11 a0 0 = v3 := (g14.cell ta0 (by decide +kernel)).trans e7
    exact tr_zret hZ dX12_seed_17 rfl (ti_b01 (by omega) (by omega)) (by decide) (by decide) ⟨v15, rfl, rfl, rfl, rfl, rfl, rfl, hS17, (by omega), trivial⟩
  · skip
    refine tr_aload_n dX12_seed_0 rfl ?_
    refine q_iconst dX12_seed_1 (by decide) ?_
    intro v19 h20
    refine q_putI dX12_seed_2 fl12_70 (kR15 hS0.1 ta0) (Or.inl rfl) hS0 ta0 (iokF rfl) rfl (by decide +kernel) ?_
    intro I21 hS22 e23 f24
    refine tr_aload_n dX12_seed_5 rfl ?_
    refine tr_getR dX12_seed_6 fl12_385 (kR15 hS22.1 ta0) d2 ?_
    refine tr_ifnonnull 18 dX12_seed_9 (by decide) ?_
    refine tr_iload_n dX12_seed_18 rfl ?_
    refine q_iconst dX12_seed_19 (by decide) ?_
    intro v25 h26
    refine q_ldcw 65536 dX12_seed_20 ld12_503 (by decide +kernel) ?_
    intro v27 h28
    refine q_callSi hE (M' := mX12_in) (as := [_, _, _]) dX12_seed_23 lk12_149 inX12_in myX12_in ⟨by decide, by decide⟩ rfl (Nat.le_of_ble_eq_true rfl) rfl rfl (by decide) (by decide) (k_X12_in hS22.1 ) ?_
    rintro v33 cn' K' N' I29 R30 L31 ⟨rfl, rfl, rfl, rfl, rfl, rfl, h34, p35, p36, -⟩
    have p37 := p35
    have p38 := p36
    refine q_if_ne 35 dX12_seed_26 (by decide) (fun h39 => ?_) (fun h39 => ?_)
    · skip
      refine tr_aload_n dX12_seed_35 rfl ?_
      obtain ⟨a40, d41, ta40⟩ := rf15_16 hW0 ta0
      refine tr_getR dX12_seed_36 fl12_17 (kR15 hS22.1 ta0) d41 ?_
      refine q_iconst dX12_seed_39 (by decide) ?_
      intro v42 h43
      refine tr_iload_n dX12_seed_40 rfl ?_
      refine q_iast dX12_seed_41 (kR77 hS22.1 ta40) (ti_in (nR77 hS22.1 ta40) (by omega) (by omega)) hS22 ta40 (iok_w2 rfl (by have q := ti_nat (i := v42) (by omega); omega) (by omega)) rfl (by rfl) ?_
      intro I44 hS45 e47 f46
      have c48 : I44 a0 0 = v19 := (f46 _ _ (fun q => by have z := ti_nat (i := v42) (by omega); omega)).trans e23
      rw [show v42.toNatClampNeg = 2 from ti_cl (by omega)] at e47
      refine tr_aload_n dX12_seed_42 rfl ?_
      refine q_callVi hE (M' := mX12_granted) (as := []) dX12_seed_43 lk12_513 inX12_granted seX12_granted myX12_granted (by decide) ⟨by decide, by decide⟩ rfl (kR15 hS45.1 ta0) (Nat.le_of_ble_eq_true rfl) rfl rfl (by decide) (by decide) (k_X12_granted hS45.1 ta0) ?_
      rintro v53 cn' K' N' I49 R50 L51 ⟨rfl, rfl, rfl, rfl, rfl, g52, h54, -⟩
      have hS55 := hS45.tr g52 (by decide +kernel) (by decide +kernel)
      have c56 : I49 a0 0 = v19 := (g52.cell ta0 (by decide +kernel)).trans c48
      have c57 : I49 a40 2 = x1 := (g52.cell ta40 (by decide +kernel)).trans e47
      exact tr_zret hZ dX12_seed_46 rfl (ti_b01 (by omega) (by omega)) (by decide) (by decide) ⟨v53, rfl, rfl, rfl, rfl, rfl, rfl, hS55, (by omega), trivial⟩
    · skip
      refine tr_aload_n dX12_seed_29 rfl ?_
      refine q_iconst dX12_seed_30 (by decide) ?_
      intro v58 h59
      refine q_callVi hE (M' := mX12_denied) (as := [_]) dX12_seed_31 lk12_507 inX12_denied seX12_denied myX12_denied (by decide) ⟨by decide, by decide⟩ rfl (kR15 hS22.1 ta0) (Nat.le_of_ble_eq_true rfl) rfl rfl (by decide) (by decide) (k_X12_denied hS22.1 ta0) ?_
      rintro v64 cn' K' N' I60 R61 L62 ⟨rfl, rfl, rfl, rfl, rfl, g63, h65, -⟩
      have hS66 := hS22.tr g63 (by decide +kernel) (by decide +kernel)
      have c67 : I60 a0 0 = v19 := (g63.cell ta0 (by decide +kernel)).trans e23
      exact tr_zret hZ dX12_seed_34 rfl (ti_b01 (by omega) (by omega)) (by decide) (by decide) ⟨v64, rfl, rfl, rfl, rfl, rfl, rfl, hS66, (by omega), trivial⟩
def wi_X12_undo : List Nat := [960, 961, 962, 979, 4991]
def wr_X12_undo : List Nat := []
set_option maxHeartbeats 4000000 in
theorem k_X12_undo {l : Launch} {T : Nat → Nat} {cn : Nat} {K N : Nat → Nat} {I0 : cz_I} {R0 : cz_R} {L0 : cz_L} {d : Int} (hW0 : Wf T cn K N I0 R0 d) {a0 : Nat} (ta0 : T a0 = 15) : ConE l mX12_undo [.ref a0] cn K N I0 R0 L0 (ca_i (fun v cn' K' N' I' R' L' => cn = cn' ∧ K = K' ∧ N = N' ∧ R0 = R' ∧ L0 = L' ∧ St T cn K N d wi_X12_undo wr_X12_undo I0 R0 I' R0 ∧ (0 ≤ v.toInt ∧ v.toInt ≤ 1) ∧ True)) := by
  refine ConE.of (by decide +kernel) rfl (Nat.le_of_ble_eq_true rfl) rfl (fun X hX hZ hE => ?_)
  subst hX
  have hS0 : St T cn K N d wi_X12_undo wr_X12_undo I0 R0 I0 R0 := St.rf0 hW0
  rcases rf15_3 hW0 ta0 with d2 | ⟨a1, d2, ta1⟩
  · skip
    refine tr_aload_n dX12_undo_0 rfl ?_
    refine q_iconst dX12_undo_1 (by decide) ?_
    intro v3 h4
    refine q_putI dX12_undo_2 fl12_70 (kR15 hS0.1 ta0) (Or.inl rfl) hS0 ta0 (iokF rfl) rfl (by decide +kernel) ?_
    intro I5 hS6 e7 f8
    refine tr_aload_n dX12_undo_5 rfl ?_
    refine tr_getN dX12_undo_6 fl12_385 (kR15 hS6.1 ta0) d2 ?_
    refine tr_ifnullN 19 dX12_undo_9 (by decide) ?_
    refine tr_aload_n dX12_undo_19 rfl ?_
    refine q_bipush dX12_undo_20 (by decide +kernel) ?_
    intro v9 h10
    refine q_callVi hE (M' := mX12_denied) (as := [_]) dX12_undo_22 lk12_507 inX12_denied seX12_denied myX12_denied (by decide) ⟨by decide, by decide⟩ rfl (kR15 hS6.1 ta0) (Nat.le_of_ble_eq_true rfl) rfl rfl (by decide) (by decide) (k_X12_denied hS6.1 ta0) ?_
    rintro v15 cn' K' N' I11 R12 L13 ⟨rfl, rfl, rfl, rfl, rfl, g14, h16, -⟩
    have hS17 := hS6.tr g14 (by decide +kernel) (by decide +kernel)
    have c18 : I11 a0 0 = v3 := (g14.cell ta0 (by decide +kernel)).trans e7
    exact tr_zret hZ dX12_undo_25 rfl (ti_b01 (by omega) (by omega)) (by decide) (by decide) ⟨v15, rfl, rfl, rfl, rfl, rfl, rfl, hS17, (by omega), trivial⟩
  · skip
    refine tr_aload_n dX12_undo_0 rfl ?_
    refine q_iconst dX12_undo_1 (by decide) ?_
    intro v19 h20
    refine q_putI dX12_undo_2 fl12_70 (kR15 hS0.1 ta0) (Or.inl rfl) hS0 ta0 (iokF rfl) rfl (by decide +kernel) ?_
    intro I21 hS22 e23 f24
    refine tr_aload_n dX12_undo_5 rfl ?_
    refine tr_getR dX12_undo_6 fl12_385 (kR15 hS22.1 ta0) d2 ?_
    refine tr_ifnull dX12_undo_9 ?_
    refine tr_aload_n dX12_undo_12 rfl ?_
    obtain ⟨v25, c26⟩ : ∃ v, I21 a0 19 = v := ⟨_, rfl⟩
    have b27 := iv15_19 hS22.1 ta0 c26
    refine q_getI dX12_undo_13 fl12_387 (kR15 hS22.1 ta0) c26 ?_
    refine q_if_ne 26 dX12_undo_16 (by decide) (fun h28 => ?_) (fun h28 => ?_)
    · skip
      refine tr_aload_n dX12_undo_26 rfl ?_
      refine tr_dup dX12_undo_27 rfl ?_
      refine q_getI dX12_undo_28 fl12_387 (kR15 hS22.1 ta0) c26 ?_
      refine q_iconst dX12_undo_31 (by decide) ?_
      intro v29 h30
      refine q_isubE dX12_undo_32 (by intros; omega) ?_
      intro v31 h32
      refine q_putI dX12_undo_33 fl12_387 (kR15 hS22.1 ta0) (Or.inl rfl) hS22 ta0 (by show (0 : Int) ≤ v31.toInt ∧ v31.toInt ≤ (12 : Int); omega) rfl (by decide +kernel) ?_
      intro I33 hS34 e35 f36
      have c37 : I33 a0 0 = v19 := (f36 _ _ (fun q => absurd q.2 (by decide))).trans e23
      refine q_iconst dX12_undo_36 (by decide) ?_
      intro v38 h39
      refine tr_istore_n dX12_undo_37 (by decide) (by decide) ?_
      have lp49 : ∀ (fu : Nat) (ls : Nat → Option Value) (v40 : Int32) (I43 : cz_I) (v45 : Int32), ls 0 = some (.ref a0) → ls 1 = some (.int v40) → St T cn K N d wi_X12_undo wr_X12_undo I0 R0 I43 R0 → I43 a0 19 = v45 → v45.toInt ≤ 11 → 0 ≤ v40.toInt → (-v40.toInt + 2147483647).toNat < fu → Tr X mX12_undo 38 ls [] cn K N I43 R0 L0 0 0 := by
        intro fu
        induction fu with
        | zero => intros; rename_i hz; exact absurd hz (Nat.not_lt_zero _)
        | succ fu ih49 =>
          intro ls v40 I43 v45 hl41 hl42 hS44 c46 g47 g48 hm49
          have b51 := iv15_19 hS44.1 ta0 c46
          refine tr_iload_n dX12_undo_38 hl42 ?_
          refine q_bipush dX12_undo_39 (by decide +kernel) ?_
          intro v52 h53
          refine q_icmp_ge 70 dX12_undo_41 (by decide) (fun h54 => ?_) (fun h54 => ?_)
          · skip
            refine tr_aload_n dX12_undo_70 hl41 ?_
            refine q_callVi hE (M' := mX12_granted) (as := []) dX12_undo_71 lk12_513 inX12_granted seX12_granted myX12_granted (by decide) ⟨by decide, by decide⟩ rfl (kR15 hS44.1 ta0) (Nat.le_of_ble_eq_true rfl) rfl rfl (by decide) (by decide) (k_X12_granted hS44.1 ta0) ?_
            rintro v59 cn' K' N' I55 R56 L57 ⟨rfl, rfl, rfl, rfl, rfl, g58, h60, -⟩
            have hS61 := hS44.tr g58 (by decide +kernel) (by decide +kernel)
            have c62 : I55 a0 19 = v45 := (g58.cell ta0 (by decide +kernel)).trans c46
            exact tr_zret hZ dX12_undo_74 rfl (ti_b01 (by omega) (by omega)) (by decide) (by decide) ⟨v59, rfl, rfl, rfl, rfl, rfl, rfl, hS61, (by omega), trivial⟩
          · skip
            refine tr_aload_n dX12_undo_44 hl41 ?_
            obtain ⟨a63, d64, ta63⟩ := rf15_16 hW0 ta0
            refine tr_getR dX12_undo_45 fl12_17 (kR15 hS44.1 ta0) d64 ?_
            refine tr_iload_n dX12_undo_48 hl42 ?_
            refine tr_aload_n dX12_undo_49 hl41 ?_
            obtain ⟨a65, d66, ta65⟩ := rf15_17 hW0 ta0
            refine tr_getR dX12_undo_50 fl12_21 (kR15 hS44.1 ta0) d66 ?_
            refine q_bipush dX12_undo_53 (by decide +kernel) ?_
            intro v67 h68
            refine tr_aload_n dX12_undo_55 hl41 ?_
            refine q_getI dX12_undo_56 fl12_387 (kR15 hS44.1 ta0) c46 ?_
            refine q_imulE (c := 15) dX12_undo_59 (by omega) (by omega) ?_
            intro v69 h70
            refine tr_iload_n dX12_undo_60 hl42 ?_
            refine q_iaddE dX12_undo_61 (by intros; omega) ?_
            intro v71 h72
            refine q_iald dX12_undo_62 (kR78 hS44.1 ta65) (ti_in (nR78 hS44.1 ta65) (by omega) (by omega)) ?_
            intro v73 c74
            refine q_iast dX12_undo_63 (kR77 hS44.1 ta63) (ti_in (nR77 hS44.1 ta63) (by omega) (by omega)) hS44 ta63 (iok_w (r := 78) rfl rfl (by have q := ti_nat (i := v40) (by omega); have q2 := ti_nat (i := v71) (by omega); omega) (hS44.1.iv ta65 c74)) rfl (by rfl) ?_
            intro I76 hS77 e79 f78
            have c80 : I76 a0 19 = v45 := (f78 _ _ (fun q => by have z := ti_nat (i := v40) (by omega); omega)).trans c46
            refine q_iincE dX12_undo_64 hl42 (by decide) (by decide) (by intros; omega) ?_
            intro v81 h82
            refine tr_goto 38 dX12_undo_67 (by decide) ?_
            exact ih49 _ v81 I76 v45 hl41 rfl hS77 c80 (by omega) (by omega) (by omega)
      exact lp49 _ _ v38 I33 v31 rfl rfl hS34 e35 (by omega) (by omega) (Nat.lt_succ_self _)
    · skip
      refine tr_aload_n dX12_undo_19 rfl ?_
      refine q_bipush dX12_undo_20 (by decide +kernel) ?_
      intro v83 h84
      refine q_callVi hE (M' := mX12_denied) (as := [_]) dX12_undo_22 lk12_507 inX12_denied seX12_denied myX12_denied (by decide) ⟨by decide, by decide⟩ rfl (kR15 hS22.1 ta0) (Nat.le_of_ble_eq_true rfl) rfl rfl (by decide) (by decide) (k_X12_denied hS22.1 ta0) ?_
      rintro v89 cn' K' N' I85 R86 L87 ⟨rfl, rfl, rfl, rfl, rfl, g88, h90, -⟩
      have hS91 := hS22.tr g88 (by decide +kernel) (by decide +kernel)
      have c92 : I85 a0 0 = v19 := (g88.cell ta0 (by decide +kernel)).trans e23
      have c93 : I85 a0 19 = v25 := (g88.cell ta0 (by decide +kernel)).trans c26
      exact tr_zret hZ dX12_undo_25 rfl (ti_b01 (by omega) (by omega)) (by decide) (by decide) ⟨v89, rfl, rfl, rfl, rfl, rfl, rfl, hS91, (by omega), trivial⟩
def wi_X12_mark : List Nat := [960, 961, 962, 980, 5119]
def wr_X12_mark : List Nat := []
set_option maxHeartbeats 4000000 in
theorem k_X12_mark {l : Launch} {T : Nat → Nat} {cn : Nat} {K N : Nat → Nat} {I0 : cz_I} {R0 : cz_R} {L0 : cz_L} {d : Int} (hW0 : Wf T cn K N I0 R0 d) {a0 : Nat} (ta0 : T a0 = 15) : ConE l mX12_mark [.ref a0] cn K N I0 R0 L0 (ca_i (fun v cn' K' N' I' R' L' => cn = cn' ∧ K = K' ∧ N = N' ∧ R0 = R' ∧ L0 = L' ∧ St T cn K N d wi_X12_mark wr_X12_mark I0 R0 I' R0 ∧ True)) := by
  refine ConE.of (by decide +kernel) rfl (Nat.le_of_ble_eq_true rfl) rfl (fun X hX hZ hE => ?_)
  subst hX
  have hS0 : St T cn K N d wi_X12_mark wr_X12_mark I0 R0 I0 R0 := St.rf0 hW0
  rcases rf15_3 hW0 ta0 with d2 | ⟨a1, d2, ta1⟩
  · skip
    refine tr_aload_n dX12_mark_0 rfl ?_
    refine q_iconst dX12_mark_1 (by decide) ?_
    intro v3 h4
    refine q_putI dX12_mark_2 fl12_70 (kR15 hS0.1 ta0) (Or.inl rfl) hS0 ta0 (iokF rfl) rfl (by decide +kernel) ?_
    intro I5 hS6 e7 f8
    refine tr_aload_n dX12_mark_5 rfl ?_
    refine tr_getN dX12_mark_6 fl12_385 (kR15 hS6.1 ta0) d2 ?_
    refine tr_ifnonnullN dX12_mark_9 ?_
    refine tr_aload_n dX12_mark_12 rfl ?_
    refine q_iconst dX12_mark_13 (by decide) ?_
    intro v9 h10
    refine q_callVi hE (M' := mX12_refused) (as := [_]) dX12_mark_14 lk12_76 inX12_refused seX12_refused myX12_refused (by decide) ⟨by decide, by decide⟩ rfl (kR15 hS6.1 ta0) (Nat.le_of_ble_eq_true rfl) rfl rfl (by decide) (by decide) (k_X12_refused hS6.1 ta0) ?_
    rintro v15 cn' K' N' I11 R12 L13 ⟨rfl, rfl, rfl, rfl, rfl, g14, -⟩
    have hS16 := hS6.tr g14 (by decide +kernel) (by decide +kernel)
    have c17 : I11 a0 0 = v3 := (g14.cell ta0 (by decide +kernel)).trans e7
    exact tr_iret hZ dX12_mark_17 rfl (by decide) (by decide) ⟨v15, rfl, rfl, rfl, rfl, rfl, rfl, hS16, trivial⟩
  · skip
    refine tr_aload_n dX12_mark_0 rfl ?_
    refine q_iconst dX12_mark_1 (by decide) ?_
    intro v18 h19
    refine q_putI dX12_mark_2 fl12_70 (kR15 hS0.1 ta0) (Or.inl rfl) hS0 ta0 (iokF rfl) rfl (by decide +kernel) ?_
    intro I20 hS21 e22 f23
    refine tr_aload_n dX12_mark_5 rfl ?_
    refine tr_getR dX12_mark_6 fl12_385 (kR15 hS21.1 ta0) d2 ?_
    refine tr_ifnonnull 18 dX12_mark_9 (by decide) ?_
    refine tr_aload_n dX12_mark_18 rfl ?_
    obtain ⟨v24, c25⟩ : ∃ v, I20 a0 20 = v := ⟨_, rfl⟩
    have b26 := iv15_20 hS21.1 ta0 c25
    refine q_getI dX12_mark_19 fl12_390 (kR15 hS21.1 ta0) c25 ?_
    refine q_iconst dX12_mark_22 (by decide) ?_
    intro v27 h28
    refine q_icmp_ne 32 dX12_mark_23 (by decide) (fun h29 => ?_) (fun h29 => ?_)
    · skip
      refine q_iconst dX12_mark_32 (by decide) ?_
      intro v30 h31
      refine tr_istore_n dX12_mark_33 (by decide) (by decide) ?_
      have lp41 : ∀ (fu : Nat) (ls : Nat → Option Value) (v32 : Int32) (I35 : cz_I) (v37 : Int32), ls 0 = some (.ref a0) → ls 1 = some (.int v32) → St T cn K N d wi_X12_mark wr_X12_mark I0 R0 I35 R0 → I35 a0 20 = v37 → v37.toInt ≤ 2 → 0 ≤ v32.toInt → (-v32.toInt + 2147483647).toNat < fu → Tr X mX12_mark 34 ls [] cn K N I35 R0 L0 0 0 := by
        intro fu
        induction fu with
        | zero => intros; rename_i hz; exact absurd hz (Nat.not_lt_zero _)
        | succ fu ih41 =>
          intro ls v32 I35 v37 hl33 hl34 hS36 c38 g39 g40 hm41
          have b43 := iv15_20 hS36.1 ta0 c38
          refine tr_iload_n dX12_mark_34 hl34 ?_
          refine q_bipush dX12_mark_35 (by decide +kernel) ?_
          intro v44 h45
          refine q_icmp_ge 66 dX12_mark_37 (by decide) (fun h46 => ?_) (fun h46 => ?_)
          · skip
            refine tr_aload_n dX12_mark_66 hl33 ?_
            refine tr_dup dX12_mark_67 rfl ?_
            refine q_getI dX12_mark_68 fl12_390 (kR15 hS36.1 ta0) c38 ?_
            refine q_iconst dX12_mark_71 (by decide) ?_
            intro v47 h48
            refine q_iaddE dX12_mark_72 (by intros; omega) ?_
            intro v49 h50
            refine q_putI dX12_mark_73 fl12_390 (kR15 hS36.1 ta0) (Or.inl rfl) hS36 ta0 (by show (0 : Int) ≤ v49.toInt ∧ v49.toInt ≤ (3 : Int); omega) rfl (by decide +kernel) ?_
            intro I51 hS52 e53 f54
            refine tr_aload_n dX12_mark_76 hl33 ?_
            refine tr_aload_n dX12_mark_77 hl33 ?_
            refine q_getI dX12_mark_78 fl12_390 (kR15 hS52.1 ta0) e53 ?_
            refine q_iconst dX12_mark_81 (by decide) ?_
            intro v55 h56
            refine q_isubE dX12_mark_82 (by intros; omega) ?_
            intro v57 h58
            refine q_callVi hE (M' := mX12_good) (as := [_]) dX12_mark_83 lk12_81 inX12_good seX12_good myX12_good (by decide) ⟨by decide, by decide⟩ rfl (kR15 hS52.1 ta0) (Nat.le_of_ble_eq_true rfl) rfl rfl (by decide) (by decide) (k_X12_good hS52.1 ta0) ?_
            rintro v63 cn' K' N' I59 R60 L61 ⟨rfl, rfl, rfl, rfl, rfl, g62, -⟩
            have hS64 := hS52.tr g62 (by decide +kernel) (by decide +kernel)
            have c65 : I59 a0 20 = v49 := (g62.cell ta0 (by decide +kernel)).trans e53
            exact tr_iret hZ dX12_mark_86 rfl (by decide) (by decide) ⟨v63, rfl, rfl, rfl, rfl, rfl, rfl, hS64, trivial⟩
          · skip
            refine tr_aload_n dX12_mark_40 hl33 ?_
            obtain ⟨a66, d67, ta66⟩ := rf15_18 hW0 ta0
            refine tr_getR dX12_mark_41 fl12_24 (kR15 hS36.1 ta0) d67 ?_
            refine q_bipush dX12_mark_44 (by decide +kernel) ?_
            intro v68 h69
            refine tr_aload_n dX12_mark_46 hl33 ?_
            refine q_getI dX12_mark_47 fl12_390 (kR15 hS36.1 ta0) c38 ?_
            refine q_imulE (c := 15) dX12_mark_50 (by omega) (by omega) ?_
            intro v70 h71
            refine tr_iload_n dX12_mark_51 hl34 ?_
            refine q_iaddE dX12_mark_52 (by intros; omega) ?_
            intro v72 h73
            refine tr_aload_n dX12_mark_53 hl33 ?_
            obtain ⟨a74, d75, ta74⟩ := rf15_16 hW0 ta0
            refine tr_getR dX12_mark_54 fl12_17 (kR15 hS36.1 ta0) d75 ?_
            refine tr_iload_n dX12_mark_57 hl34 ?_
            refine q_iald dX12_mark_58 (kR77 hS36.1 ta74) (ti_in (nR77 hS36.1 ta74) (by omega) (by omega)) ?_
            intro v76 c77
            refine q_iast dX12_mark_59 (kR79 hS36.1 ta66) (ti_in (nR79 hS36.1 ta66) (by omega) (by omega)) hS36 ta66 (iok_w (r := 77) rfl rfl (by have q := ti_nat (i := v72) (by omega); have q2 := ti_nat (i := v32) (by omega); omega) (hS36.1.iv ta74 c77)) rfl (by rfl) ?_
            intro I79 hS80 e82 f81
            have c83 : I79 a0 20 = v37 := (f81 _ _ (fun q => by have z := ta0; rw [q.1, ta66] at z; exact absurd z (by decide))).trans c38
            refine q_iincE dX12_mark_60 hl34 (by decide) (by decide) (by intros; omega) ?_
            intro v84 h85
            refine tr_goto 34 dX12_mark_63 (by decide) ?_
            exact ih41 _ v84 I79 v37 hl33 rfl hS80 c83 (by omega) (by omega) (by omega)
      exact lp41 _ _ v30 I20 v24 rfl rfl hS21 c25 (by omega) (by omega) (Nat.lt_succ_self _)
    · skip
      refine tr_aload_n dX12_mark_26 rfl ?_
      refine q_iconst dX12_mark_27 (by decide) ?_
      intro v86 h87
      refine q_callVi hE (M' := mX12_refused) (as := [_]) dX12_mark_28 lk12_76 inX12_refused seX12_refused myX12_refused (by decide) ⟨by decide, by decide⟩ rfl (kR15 hS21.1 ta0) (Nat.le_of_ble_eq_true rfl) rfl rfl (by decide) (by decide) (k_X12_refused hS21.1 ta0) ?_
      rintro v92 cn' K' N' I88 R89 L90 ⟨rfl, rfl, rfl, rfl, rfl, g91, -⟩
      have hS93 := hS21.tr g91 (by decide +kernel) (by decide +kernel)
      have c94 : I88 a0 0 = v18 := (g91.cell ta0 (by decide +kernel)).trans e22
      have c95 : I88 a0 20 = v24 := (g91.cell ta0 (by decide +kernel)).trans c25
      exact tr_iret hZ dX12_mark_31 rfl (by decide) (by decide) ⟨v92, rfl, rfl, rfl, rfl, rfl, rfl, hS93, trivial⟩
def wi_X12_back : List Nat := [960, 961, 962, 979, 4991]
def wr_X12_back : List Nat := []
set_option maxHeartbeats 4000000 in
theorem k_X12_back {l : Launch} {T : Nat → Nat} {cn : Nat} {K N : Nat → Nat} {I0 : cz_I} {R0 : cz_R} {L0 : cz_L} {d : Int} (hW0 : Wf T cn K N I0 R0 d) {a0 : Nat} (ta0 : T a0 = 15) {x1 : Int32} : ConE l mX12_back [.ref a0, .int x1] cn K N I0 R0 L0 (ca_i (fun v cn' K' N' I' R' L' => cn = cn' ∧ K = K' ∧ N = N' ∧ R0 = R' ∧ L0 = L' ∧ St T cn K N d wi_X12_back wr_X12_back I0 R0 I' R0 ∧ (0 ≤ v.toInt ∧ v.toInt ≤ 1) ∧ True)) := by
  refine ConE.of (by decide +kernel) rfl (Nat.le_of_ble_eq_true rfl) rfl (fun X hX hZ hE => ?_)
  subst hX
  have hS0 : St T cn K N d wi_X12_back wr_X12_back I0 R0 I0 R0 := St.rf0 hW0
  rcases rf15_3 hW0 ta0 with d2 | ⟨a1, d2, ta1⟩
  · skip
    refine tr_aload_n dX12_back_0 rfl ?_
    refine q_iconst dX12_back_1 (by decide) ?_
    intro v3 h4
    refine q_putI dX12_back_2 fl12_70 (kR15 hS0.1 ta0) (Or.inl rfl) hS0 ta0 (iokF rfl) rfl (by decide +kernel) ?_
    intro I5 hS6 e7 f8
    refine tr_aload_n dX12_back_5 rfl ?_
    refine tr_getN dX12_back_6 fl12_385 (kR15 hS6.1 ta0) d2 ?_
    refine tr_ifnullN 24 dX12_back_9 (by decide) ?_
    refine tr_aload_n dX12_back_24 rfl ?_
    refine q_iconst dX12_back_25 (by decide) ?_
    intro v9 h10
    refine q_callVi hE (M' := mX12_denied) (as := [_]) dX12_back_26 lk12_507 inX12_denied seX12_denied myX12_denied (by decide) ⟨by decide, by decide⟩ rfl (kR15 hS6.1 ta0) (Nat.le_of_ble_eq_true rfl) rfl rfl (by decide) (by decide) (k_X12_denied hS6.1 ta0) ?_
    rintro v15 cn' K' N' I11 R12 L13 ⟨rfl, rfl, rfl, rfl, rfl, g14, h16, -⟩
    have hS17 := hS6.tr g14 (by decide +kernel) (by decide +kernel)
    have c18 : I11 a0 0 = v3 := (g14.cell ta0 (by decide +kernel)).trans e7
    exact tr_zret hZ dX12_back_29 rfl (ti_b01 (by omega) (by omega)) (by decide) (by decide) ⟨v15, rfl, rfl, rfl, rfl, rfl, rfl, hS17, (by omega), trivial⟩
  · skip
    refine tr_aload_n dX12_back_0 rfl ?_
    refine q_iconst dX12_back_1 (by decide) ?_
    intro v19 h20
    refine q_putI dX12_back_2 fl12_70 (kR15 hS0.1 ta0) (Or.inl rfl) hS0 ta0 (iokF rfl) rfl (by decide +kernel) ?_
    intro I21 hS22 e23 f24
    refine tr_aload_n dX12_back_5 rfl ?_
    refine tr_getR dX12_back_6 fl12_385 (kR15 hS22.1 ta0) d2 ?_
    refine tr_ifnull dX12_back_9 ?_
    refine tr_iload_n dX12_back_12 rfl ?_
    refine q_if_lt 24 dX12_back_13 (by decide) (fun h25 => ?_) (fun h25 => ?_)
    · skip
      refine tr_aload_n dX12_back_24 rfl ?_
      refine q_iconst dX12_back_25 (by decide) ?_
      intro v26 h27
      refine q_callVi hE (M' := mX12_denied) (as := [_]) dX12_back_26 lk12_507 inX12_denied seX12_denied myX12_denied (by decide) ⟨by decide, by decide⟩ rfl (kR15 hS22.1 ta0) (Nat.le_of_ble_eq_true rfl) rfl rfl (by decide) (by decide) (k_X12_denied hS22.1 ta0) ?_
      rintro v32 cn' K' N' I28 R29 L30 ⟨rfl, rfl, rfl, rfl, rfl, g31, h33, -⟩
      have hS34 := hS22.tr g31 (by decide +kernel) (by decide +kernel)
      have c35 : I28 a0 0 = v19 := (g31.cell ta0 (by decide +kernel)).trans e23
      exact tr_zret hZ dX12_back_29 rfl (ti_b01 (by omega) (by omega)) (by decide) (by decide) ⟨v32, rfl, rfl, rfl, rfl, rfl, rfl, hS34, (by omega), trivial⟩
    · skip
      refine tr_iload_n dX12_back_16 rfl ?_
      refine tr_aload_n dX12_back_17 rfl ?_
      obtain ⟨v36, c37⟩ : ∃ v, I0 a0 20 = v := ⟨_, rfl⟩
      have b38 := iv15_20 hW0 ta0 c37
      refine q_getI dX12_back_18 fl12_390 (kR15 hS22.1 ta0) ((hS22.cell ta0 (by decide +kernel)).trans c37) ?_
      refine q_icmp_lt 30 dX12_back_21 (by decide) (fun h39 => ?_) (fun h39 => ?_)
      · skip
        refine q_iconst dX12_back_30 (by decide) ?_
        intro v40 h41
        refine tr_istore_n dX12_back_31 (by decide) (by decide) ?_
        have lp49 : ∀ (fu : Nat) (ls : Nat → Option Value) (v42 : Int32) (I46 : cz_I), ls 0 = some (.ref a0) → ls 1 = some (.int x1) → ls 2 = some (.int v42) → St T cn K N d wi_X12_back wr_X12_back I0 R0 I46 R0 → 0 ≤ v42.toInt → (-v42.toInt + 2147483647).toNat < fu → Tr X mX12_back 32 ls [] cn K N I46 R0 L0 0 0 := by
          intro fu
          induction fu with
          | zero => intros; rename_i hz; exact absurd hz (Nat.not_lt_zero _)
          | succ fu ih49 =>
            intro ls v42 I46 hl43 hl44 hl45 hS47 g48 hm49
            refine tr_iload_n dX12_back_32 hl45 ?_
            refine q_bipush dX12_back_33 (by decide +kernel) ?_
            intro v51 h52
            refine q_icmp_ge 61 dX12_back_35 (by decide) (fun h53 => ?_) (fun h53 => ?_)
            · skip
              refine tr_aload_n dX12_back_61 hl43 ?_
              refine q_iconst dX12_back_62 (by decide) ?_
              intro v54 h55
              refine q_putI dX12_back_63 fl12_387 (kR15 hS47.1 ta0) (Or.inl rfl) hS47 ta0 (by show (0 : Int) ≤ v54.toInt ∧ v54.toInt ≤ (12 : Int); omega) rfl (by decide +kernel) ?_
              intro I56 hS57 e58 f59
              refine tr_aload_n dX12_back_66 hl43 ?_
              refine q_callVi hE (M' := mX12_granted) (as := []) dX12_back_67 lk12_513 inX12_granted seX12_granted myX12_granted (by decide) ⟨by decide, by decide⟩ rfl (kR15 hS57.1 ta0) (Nat.le_of_ble_eq_true rfl) rfl rfl (by decide) (by decide) (k_X12_granted hS57.1 ta0) ?_
              rintro v64 cn' K' N' I60 R61 L62 ⟨rfl, rfl, rfl, rfl, rfl, g63, h65, -⟩
              have hS66 := hS57.tr g63 (by decide +kernel) (by decide +kernel)
              have c67 : I60 a0 19 = v54 := (g63.cell ta0 (by decide +kernel)).trans e58
              exact tr_zret hZ dX12_back_70 rfl (ti_b01 (by omega) (by omega)) (by decide) (by decide) ⟨v64, rfl, rfl, rfl, rfl, rfl, rfl, hS66, (by omega), trivial⟩
            · skip
              refine tr_aload_n dX12_back_38 hl43 ?_
              obtain ⟨a68, d69, ta68⟩ := rf15_16 hW0 ta0
              refine tr_getR dX12_back_39 fl12_17 (kR15 hS47.1 ta0) d69 ?_
              refine tr_iload_n dX12_back_42 hl45 ?_
              refine tr_aload_n dX12_back_43 hl43 ?_
              obtain ⟨a70, d71, ta70⟩ := rf15_18 hW0 ta0
              refine tr_getR dX12_back_44 fl12_24 (kR15 hS47.1 ta0) d71 ?_
              refine q_bipush dX12_back_47 (by decide +kernel) ?_
              intro v72 h73
              refine tr_iload_n dX12_back_49 hl44 ?_
              refine q_imulE (c := 15) dX12_back_50 (by omega) (by omega) ?_
              intro v74 h75
              refine tr_iload_n dX12_back_51 hl45 ?_
              refine q_iaddE dX12_back_52 (by intros; omega) ?_
              intro v76 h77
              refine q_iald dX12_back_53 (kR79 hS47.1 ta70) (ti_in (nR79 hS47.1 ta70) (by omega) (by omega)) ?_
              intro v78 c79
              refine q_iast dX12_back_54 (kR77 hS47.1 ta68) (ti_in (nR77 hS47.1 ta68) (by omega) (by omega)) hS47 ta68 (iok_w (r := 79) rfl rfl (by have q := ti_nat (i := v42) (by omega); have q2 := ti_nat (i := v76) (by omega); omega) (hS47.1.iv ta70 c79)) rfl (by rfl) ?_
              intro I81 hS82 e84 f83
              refine q_iincE dX12_back_55 hl45 (by decide) (by decide) (by intros; omega) ?_
              intro v85 h86
              refine tr_goto 32 dX12_back_58 (by decide) ?_
              exact ih49 _ v85 I81 hl43 hl44 rfl hS82 (by omega) (by omega)
        exact lp49 _ _ v40 I21 rfl rfl rfl hS22 (by omega) (Nat.lt_succ_self _)
      · skip
        refine tr_aload_n dX12_back_24 rfl ?_
        refine q_iconst dX12_back_25 (by decide) ?_
        intro v87 h88
        refine q_callVi hE (M' := mX12_denied) (as := [_]) dX12_back_26 lk12_507 inX12_denied seX12_denied myX12_denied (by decide) ⟨by decide, by decide⟩ rfl (kR15 hS22.1 ta0) (Nat.le_of_ble_eq_true rfl) rfl rfl (by decide) (by decide) (k_X12_denied hS22.1 ta0) ?_
        rintro v93 cn' K' N' I89 R90 L91 ⟨rfl, rfl, rfl, rfl, rfl, g92, h94, -⟩
        have hS95 := hS22.tr g92 (by decide +kernel) (by decide +kernel)
        have c96 : I89 a0 0 = v19 := (g92.cell ta0 (by decide +kernel)).trans e23
        exact tr_zret hZ dX12_back_29 rfl (ti_b01 (by omega) (by omega)) (by decide) (by decide) ⟨v93, rfl, rfl, rfl, rfl, rfl, rfl, hS95, (by omega), trivial⟩
def wi_X12_event : List Nat := [960, 961, 962]
def wr_X12_event : List Nat := []
set_option maxHeartbeats 4000000 in
theorem k_X12_event {l : Launch} {T : Nat → Nat} {cn : Nat} {K N : Nat → Nat} {I0 : cz_I} {R0 : cz_R} {L0 : cz_L} {d : Int} (hW0 : Wf T cn K N I0 R0 d) {a0 : Nat} (ta0 : T a0 = 15) {x1 : Int32} {x2 : Int32} : ConE l mX12_event [.ref a0, .int x1, .int x2] cn K N I0 R0 L0 (ca_i (fun v cn' K' N' I' R' L' => cn = cn' ∧ K = K' ∧ N = N' ∧ R0 = R' ∧ L0 = L' ∧ St T cn K N d wi_X12_event wr_X12_event I0 R0 I' R0 ∧ True)) := by
  refine ConE.of (by decide +kernel) rfl (Nat.le_of_ble_eq_true rfl) rfl (fun X hX hZ hE => ?_)
  subst hX
  have hS0 : St T cn K N d wi_X12_event wr_X12_event I0 R0 I0 R0 := St.rf0 hW0
  rcases rf15_3 hW0 ta0 with d2 | ⟨a1, d2, ta1⟩
  · skip
    refine tr_aload_n dX12_event_0 rfl ?_
    refine q_iconst dX12_event_1 (by decide) ?_
    intro v3 h4
    refine q_putI dX12_event_2 fl12_70 (kR15 hS0.1 ta0) (Or.inl rfl) hS0 ta0 (iokF rfl) rfl (by decide +kernel) ?_
    intro I5 hS6 e7 f8
    refine tr_aload_n dX12_event_5 rfl ?_
    refine tr_iload_n dX12_event_6 rfl ?_
    obtain ⟨a9, d10, ta9⟩ := rf15_16 hW0 ta0
    obtain ⟨v11, c12⟩ : ∃ v, I0 a9 1 = v := ⟨_, rfl⟩
    have b13 := iv77_1 hW0 ta9 (by decide) c12
    refine q_callVi hE (M' := mX12_isEvent) (as := [_]) dX12_event_7 lk12_467 inX12_isEvent seX12_isEvent myX12_isEvent (by decide) ⟨by decide, by decide⟩ rfl (kR15 hS6.1 ta0) (Nat.le_of_ble_eq_true rfl) rfl rfl (by decide) (by decide) (k_X12_isEvent hS6.1 ta0) ?_
    rintro v18 cn' K' N' I14 R15 L16 ⟨rfl, rfl, rfl, rfl, rfl, rfl, h19, p20, p21, -⟩
    have p22 := (p21 d2)
    refine q_if_eq 22 dX12_event_10 (by decide) (fun h23 => ?_) (fun h23 => ?_)
    · skip
      refine tr_aload_n dX12_event_22 rfl ?_
      refine q_iconst dX12_event_23 (by decide) ?_
      intro v24 h25
      refine q_callVi hE (M' := mX12_refused) (as := [_]) dX12_event_24 lk12_76 inX12_refused seX12_refused myX12_refused (by decide) ⟨by decide, by decide⟩ rfl (kR15 hS6.1 ta0) (Nat.le_of_ble_eq_true rfl) rfl rfl (by decide) (by decide) (k_X12_refused hS6.1 ta0) ?_
      rintro v30 cn' K' N' I26 R27 L28 ⟨rfl, rfl, rfl, rfl, rfl, g29, -⟩
      have hS31 := hS6.tr g29 (by decide +kernel) (by decide +kernel)
      have c32 : I26 a0 0 = v3 := (g29.cell ta0 (by decide +kernel)).trans e7
      exact tr_iret hZ dX12_event_27 rfl (by decide) (by decide) ⟨v30, rfl, rfl, rfl, rfl, rfl, rfl, hS31, trivial⟩
    · skip
      exfalso; omega
  · skip
    refine tr_aload_n dX12_event_0 rfl ?_
    refine q_iconst dX12_event_1 (by decide) ?_
    intro v33 h34
    refine q_putI dX12_event_2 fl12_70 (kR15 hS0.1 ta0) (Or.inl rfl) hS0 ta0 (iokF rfl) rfl (by decide +kernel) ?_
    intro I35 hS36 e37 f38
    refine tr_aload_n dX12_event_5 rfl ?_
    refine tr_iload_n dX12_event_6 rfl ?_
    obtain ⟨v39, c40⟩ : ∃ v, I0 a1 2 = v := ⟨_, rfl⟩
    have b41 := iv14_2 hW0 ta1 c40
    obtain ⟨a42, d43, ta42⟩ := rf15_16 hW0 ta0
    obtain ⟨v44, c45⟩ : ∃ v, I0 a42 1 = v := ⟨_, rfl⟩
    have b46 := iv77_1 hW0 ta42 (by decide) c45
    refine q_callVi hE (M' := mX12_isEvent) (as := [_]) dX12_event_7 lk12_467 inX12_isEvent seX12_isEvent myX12_isEvent (by decide) ⟨by decide, by decide⟩ rfl (kR15 hS36.1 ta0) (Nat.le_of_ble_eq_true rfl) rfl rfl (by decide) (by decide) (k_X12_isEvent hS36.1 ta0) ?_
    rintro v51 cn' K' N' I47 R48 L49 ⟨rfl, rfl, rfl, rfl, rfl, rfl, h52, p53, p54, -⟩
    have p55 := p53 _ d2 _ d43
    rw [((hS36.cell ta1 (by decide +kernel)).trans c40)] at p55
    rw [((hS36.cell ta42 (by decide +kernel)).trans c45)] at p55
    refine q_if_eq 22 dX12_event_10 (by decide) (fun h56 => ?_) (fun h56 => ?_)
    · skip
      refine tr_aload_n dX12_event_22 rfl ?_
      refine q_iconst dX12_event_23 (by decide) ?_
      intro v57 h58
      refine q_callVi hE (M' := mX12_refused) (as := [_]) dX12_event_24 lk12_76 inX12_refused seX12_refused myX12_refused (by decide) ⟨by decide, by decide⟩ rfl (kR15 hS36.1 ta0) (Nat.le_of_ble_eq_true rfl) rfl rfl (by decide) (by decide) (k_X12_refused hS36.1 ta0) ?_
      rintro v63 cn' K' N' I59 R60 L61 ⟨rfl, rfl, rfl, rfl, rfl, g62, -⟩
      have hS64 := hS36.tr g62 (by decide +kernel) (by decide +kernel)
      have c65 : I59 a0 0 = v33 := (g62.cell ta0 (by decide +kernel)).trans e37
      exact tr_iret hZ dX12_event_27 rfl (by decide) (by decide) ⟨v63, rfl, rfl, rfl, rfl, rfl, rfl, hS64, trivial⟩
    · skip
      refine tr_iload_n dX12_event_13 rfl ?_
      refine q_iconst dX12_event_14 (by decide) ?_
      intro v66 h67
      refine q_iconst dX12_event_15 (by decide) ?_
      intro v68 h69
      refine q_callSi hE (M' := mX12_in) (as := [_, _, _]) dX12_event_16 lk12_149 inX12_in myX12_in ⟨by decide, by decide⟩ rfl (Nat.le_of_ble_eq_true rfl) rfl rfl (by decide) (by decide) (k_X12_in hS36.1 ) ?_
      rintro v74 cn' K' N' I70 R71 L72 ⟨rfl, rfl, rfl, rfl, rfl, rfl, h75, p76, p77, -⟩
      have p78 := p76
      have p79 := p77
      refine q_if_ne 28 dX12_event_19 (by decide) (fun h80 => ?_) (fun h80 => ?_)
      · skip
        refine tr_aload_n dX12_event_28 rfl ?_
        refine tr_iload_n dX12_event_29 rfl ?_
        refine q_if_ne 41 dX12_event_30 (by decide) (fun h81 => ?_) (fun h81 => ?_)
        · skip
          refine tr_iload_n dX12_event_41 rfl ?_
          refine q_iconst dX12_event_42 (by decide) ?_
          intro v82 h83
          refine q_icmp_ne 54 dX12_event_43 (by decide) (fun h84 => ?_) (fun h84 => ?_)
          · skip
            refine tr_iload_n dX12_event_54 rfl ?_
            refine q_iconst dX12_event_55 (by decide) ?_
            intro v85 h86
            refine q_icmp_ne 67 dX12_event_56 (by decide) (fun h87 => ?_) (fun h87 => ?_)
            · skip
              refine tr_aload_n dX12_event_67 rfl ?_
              refine tr_iload_n dX12_event_68 rfl ?_
              refine q_callVi hE (M' := mX12_toOf) (as := [_]) dX12_event_69 lk12_398 inX12_toOf seX12_toOf myX12_toOf (by decide) ⟨by decide, by decide⟩ rfl (kR15 hS36.1 ta0) (Nat.le_of_ble_eq_true rfl) rfl rfl (by decide) (by decide) (k_X12_toOf hS36.1 ta0 (by omega) (fun q0 z0 => fun q1 z1 => by obtain rfl := Option.some.inj ((d2).symm.trans z0); obtain rfl := Option.some.inj ((d43).symm.trans z1); (try rw [((hS36.cell ta1 (by decide +kernel)).trans c40)]); (try rw [((hS36.cell ta42 (by decide +kernel)).trans c45)]); (try omega)) ⟨_, d2⟩) ?_
              rintro v92 cn' K' N' I88 R89 L90 ⟨rfl, rfl, rfl, rfl, rfl, rfl, h93, -⟩
              refine q_callVi hE (M' := mX12_good) (as := [_]) dX12_event_72 lk12_81 inX12_good seX12_good myX12_good (by decide) ⟨by decide, by decide⟩ rfl (kR15 hS36.1 ta0) (Nat.le_of_ble_eq_true rfl) rfl rfl (by decide) (by decide) (k_X12_good hS36.1 ta0) ?_
              rintro v98 cn' K' N' I94 R95 L96 ⟨rfl, rfl, rfl, rfl, rfl, g97, -⟩
              have hS99 := hS36.tr g97 (by decide +kernel) (by decide +kernel)
              have c100 : I94 a0 0 = v33 := (g97.cell ta0 (by decide +kernel)).trans e37
              exact tr_iret hZ dX12_event_75 rfl (by decide) (by decide) ⟨v98, rfl, rfl, rfl, rfl, rfl, rfl, hS99, trivial⟩
            · skip
              refine tr_aload_n dX12_event_59 rfl ?_
              refine tr_iload_n dX12_event_60 rfl ?_
              refine q_callVi hE (M' := mX12_fromOf) (as := [_]) dX12_event_61 lk12_395 inX12_fromOf seX12_fromOf myX12_fromOf (by decide) ⟨by decide, by decide⟩ rfl (kR15 hS36.1 ta0) (Nat.le_of_ble_eq_true rfl) rfl rfl (by decide) (by decide) (k_X12_fromOf hS36.1 ta0 (by omega) (fun q0 z0 => fun q1 z1 => by obtain rfl := Option.some.inj ((d2).symm.trans z0); obtain rfl := Option.some.inj ((d43).symm.trans z1); (try rw [((hS36.cell ta1 (by decide +kernel)).trans c40)]); (try rw [((hS36.cell ta42 (by decide +kernel)).trans c45)]); (try omega)) ⟨_, d2⟩) ?_
              rintro v105 cn' K' N' I101 R102 L103 ⟨rfl, rfl, rfl, rfl, rfl, rfl, h106, -⟩
              refine tr_goto 72 dX12_event_64 (by decide) ?_
              refine q_callVi hE (M' := mX12_good) (as := [_]) dX12_event_72 lk12_81 inX12_good seX12_good myX12_good (by decide) ⟨by decide, by decide⟩ rfl (kR15 hS36.1 ta0) (Nat.le_of_ble_eq_true rfl) rfl rfl (by decide) (by decide) (k_X12_good hS36.1 ta0) ?_
              rintro v111 cn' K' N' I107 R108 L109 ⟨rfl, rfl, rfl, rfl, rfl, g110, -⟩
              have hS112 := hS36.tr g110 (by decide +kernel) (by decide +kernel)
              have c113 : I107 a0 0 = v33 := (g110.cell ta0 (by decide +kernel)).trans e37
              exact tr_iret hZ dX12_event_75 rfl (by decide) (by decide) ⟨v111, rfl, rfl, rfl, rfl, rfl, rfl, hS112, trivial⟩
          · skip
            refine tr_aload_n dX12_event_46 rfl ?_
            refine tr_iload_n dX12_event_47 rfl ?_
            refine q_callVi hE (M' := mX12_hutOf) (as := [_]) dX12_event_48 lk12_407 inX12_hutOf seX12_hutOf myX12_hutOf (by decide) ⟨by decide, by decide⟩ rfl (kR15 hS36.1 ta0) (Nat.le_of_ble_eq_true rfl) rfl rfl (by decide) (by decide) (k_X12_hutOf hS36.1 ta0 (by omega) ⟨_, d2⟩) ?_
            rintro v118 cn' K' N' I114 R115 L116 ⟨rfl, rfl, rfl, rfl, rfl, rfl, h119, r120, -⟩
            refine tr_goto 72 dX12_event_51 (by decide) ?_
            refine q_callVi hE (M' := mX12_good) (as := [_]) dX12_event_72 lk12_81 inX12_good seX12_good myX12_good (by decide) ⟨by decide, by decide⟩ rfl (kR15 hS36.1 ta0) (Nat.le_of_ble_eq_true rfl) rfl rfl (by decide) (by decide) (k_X12_good hS36.1 ta0) ?_
            rintro v125 cn' K' N' I121 R122 L123 ⟨rfl, rfl, rfl, rfl, rfl, g124, -⟩
            have hS126 := hS36.tr g124 (by decide +kernel) (by decide +kernel)
            have c127 : I121 a0 0 = v33 := (g124.cell ta0 (by decide +kernel)).trans e37
            exact tr_iret hZ dX12_event_75 rfl (by decide) (by decide) ⟨v125, rfl, rfl, rfl, rfl, rfl, rfl, hS126, trivial⟩
        · skip
          refine tr_aload_n dX12_event_33 rfl ?_
          refine tr_iload_n dX12_event_34 rfl ?_
          refine q_callVi hE (M' := mX12_kindOf) (as := [_]) dX12_event_35 lk12_404 inX12_kindOf seX12_kindOf myX12_kindOf (by decide) ⟨by decide, by decide⟩ rfl (kR15 hS36.1 ta0) (Nat.le_of_ble_eq_true rfl) rfl rfl (by decide) (by decide) (k_X12_kindOf hS36.1 ta0 (by omega) ⟨_, d2⟩) ?_
          rintro v132 cn' K' N' I128 R129 L130 ⟨rfl, rfl, rfl, rfl, rfl, rfl, r133, -⟩
          refine tr_goto 72 dX12_event_38 (by decide) ?_
          refine q_callVi hE (M' := mX12_good) (as := [_]) dX12_event_72 lk12_81 inX12_good seX12_good myX12_good (by decide) ⟨by decide, by decide⟩ rfl (kR15 hS36.1 ta0) (Nat.le_of_ble_eq_true rfl) rfl rfl (by decide) (by decide) (k_X12_good hS36.1 ta0) ?_
          rintro v138 cn' K' N' I134 R135 L136 ⟨rfl, rfl, rfl, rfl, rfl, g137, -⟩
          have hS139 := hS36.tr g137 (by decide +kernel) (by decide +kernel)
          have c140 : I134 a0 0 = v33 := (g137.cell ta0 (by decide +kernel)).trans e37
          exact tr_iret hZ dX12_event_75 rfl (by decide) (by decide) ⟨v138, rfl, rfl, rfl, rfl, rfl, rfl, hS139, trivial⟩
      · skip
        refine tr_aload_n dX12_event_22 rfl ?_
        refine q_iconst dX12_event_23 (by decide) ?_
        intro v141 h142
        refine q_callVi hE (M' := mX12_refused) (as := [_]) dX12_event_24 lk12_76 inX12_refused seX12_refused myX12_refused (by decide) ⟨by decide, by decide⟩ rfl (kR15 hS36.1 ta0) (Nat.le_of_ble_eq_true rfl) rfl rfl (by decide) (by decide) (k_X12_refused hS36.1 ta0) ?_
        rintro v147 cn' K' N' I143 R144 L145 ⟨rfl, rfl, rfl, rfl, rfl, g146, -⟩
        have hS148 := hS36.tr g146 (by decide +kernel) (by decide +kernel)
        have c149 : I143 a0 0 = v33 := (g146.cell ta0 (by decide +kernel)).trans e37
        exact tr_iret hZ dX12_event_27 rfl (by decide) (by decide) ⟨v147, rfl, rfl, rfl, rfl, rfl, rfl, hS148, trivial⟩
def wi_X12_size : List Nat := [960]
def wr_X12_size : List Nat := []
set_option maxHeartbeats 4000000 in
theorem k_X12_size {l : Launch} {T : Nat → Nat} {cn : Nat} {K N : Nat → Nat} {I0 : cz_I} {R0 : cz_R} {L0 : cz_L} {d : Int} (hW0 : Wf T cn K N I0 R0 d) {a0 : Nat} (ta0 : T a0 = 15) {x1 : Int32} : ConE l mX12_size [.ref a0, .int x1] cn K N I0 R0 L0 (ca_i (fun v cn' K' N' I' R' L' => cn = cn' ∧ K = K' ∧ N = N' ∧ R0 = R' ∧ L0 = L' ∧ St T cn K N d wi_X12_size wr_X12_size I0 R0 I' R0 ∧ True)) := by
  refine ConE.of (by decide +kernel) rfl (Nat.le_of_ble_eq_true rfl) rfl (fun X hX hZ hE => ?_)
  subst hX
  have hS0 : St T cn K N d wi_X12_size wr_X12_size I0 R0 I0 R0 := St.rf0 hW0
  rcases rf15_3 hW0 ta0 with d2 | ⟨a1, d2, ta1⟩
  · skip
    refine tr_aload_n dX12_size_0 rfl ?_
    refine q_iconst dX12_size_1 (by decide) ?_
    intro v3 h4
    refine q_putI dX12_size_2 fl12_70 (kR15 hS0.1 ta0) (Or.inl rfl) hS0 ta0 (iokF rfl) rfl (by decide +kernel) ?_
    intro I5 hS6 e7 f8
    refine tr_iload_n dX12_size_5 rfl ?_
    refine q_bipush dX12_size_6 (by decide +kernel) ?_
    intro v9 h10
    refine q_icmp_ne 16 dX12_size_8 (by decide) (fun h11 => ?_) (fun h11 => ?_)
    · skip
      refine tr_iload_n dX12_size_16 rfl ?_
      refine q_iconst dX12_size_17 (by decide) ?_
      intro v12 h13
      refine q_bipush dX12_size_18 (by decide +kernel) ?_
      intro v14 h15
      refine q_callSi hE (M' := mX12_in) (as := [_, _, _]) dX12_size_20 lk12_149 inX12_in myX12_in ⟨by decide, by decide⟩ rfl (Nat.le_of_ble_eq_true rfl) rfl rfl (by decide) (by decide) (k_X12_in hS6.1 ) ?_
      rintro v20 cn' K' N' I16 R17 L18 ⟨rfl, rfl, rfl, rfl, rfl, rfl, h21, p22, p23, -⟩
      have p24 := p22
      have p25 := p23
      refine q_if_ne 28 dX12_size_23 (by decide) (fun h26 => ?_) (fun h26 => ?_)
      · skip
        refine tr_aload_n dX12_size_28 rfl ?_
        refine tr_getN dX12_size_29 fl12_385 (kR15 hS6.1 ta0) d2 ?_
        refine tr_ifnonnullN dX12_size_32 ?_
        refine q_iconst dX12_size_35 (by decide) ?_
        intro v27 h28
        exact tr_iret hZ dX12_size_36 rfl (by decide) (by decide) ⟨v27, rfl, rfl, rfl, rfl, rfl, rfl, hS6, trivial⟩
      · skip
        refine q_iconst dX12_size_26 (by decide) ?_
        intro v29 h30
        exact tr_iret hZ dX12_size_27 rfl (by decide) (by decide) ⟨v29, rfl, rfl, rfl, rfl, rfl, rfl, hS6, trivial⟩
    · skip
      refine tr_aload_n dX12_size_11 rfl ?_
      obtain ⟨v31, c32⟩ : ∃ v, I0 a0 6 = v := ⟨_, rfl⟩
      have b33 := iv15_6 hW0 ta0 c32
      refine q_getI dX12_size_12 fl12_378 (kR15 hS6.1 ta0) ((hS6.cell ta0 (by decide +kernel)).trans c32) ?_
      exact tr_iret hZ dX12_size_15 rfl (by decide) (by decide) ⟨v31, rfl, rfl, rfl, rfl, rfl, rfl, hS6, trivial⟩
  · skip
    refine tr_aload_n dX12_size_0 rfl ?_
    refine q_iconst dX12_size_1 (by decide) ?_
    intro v34 h35
    refine q_putI dX12_size_2 fl12_70 (kR15 hS0.1 ta0) (Or.inl rfl) hS0 ta0 (iokF rfl) rfl (by decide +kernel) ?_
    intro I36 hS37 e38 f39
    refine tr_iload_n dX12_size_5 rfl ?_
    refine q_bipush dX12_size_6 (by decide +kernel) ?_
    intro v40 h41
    refine q_icmp_ne 16 dX12_size_8 (by decide) (fun h42 => ?_) (fun h42 => ?_)
    · skip
      refine tr_iload_n dX12_size_16 rfl ?_
      refine q_iconst dX12_size_17 (by decide) ?_
      intro v43 h44
      refine q_bipush dX12_size_18 (by decide +kernel) ?_
      intro v45 h46
      refine q_callSi hE (M' := mX12_in) (as := [_, _, _]) dX12_size_20 lk12_149 inX12_in myX12_in ⟨by decide, by decide⟩ rfl (Nat.le_of_ble_eq_true rfl) rfl rfl (by decide) (by decide) (k_X12_in hS37.1 ) ?_
      rintro v51 cn' K' N' I47 R48 L49 ⟨rfl, rfl, rfl, rfl, rfl, rfl, h52, p53, p54, -⟩
      have p55 := p53
      have p56 := p54
      refine q_if_ne 28 dX12_size_23 (by decide) (fun h57 => ?_) (fun h57 => ?_)
      · skip
        refine tr_aload_n dX12_size_28 rfl ?_
        refine tr_getR dX12_size_29 fl12_385 (kR15 hS37.1 ta0) d2 ?_
        refine tr_ifnonnull 37 dX12_size_32 (by decide) ?_
        refine tr_iload_n dX12_size_37 rfl ?_
        by_cases h58 : x1.toInt = 0
        · skip
          refine tr_tabIn (off := 58) 96 dX12_size_38 (by omega) (by omega) (by rw [h58]; decide +kernel) (by decide) ?_
          refine tr_aload_n dX12_size_96 rfl ?_
          refine tr_getR dX12_size_97 fl12_385 (kR15 hS37.1 ta0) d2 ?_
          obtain ⟨v59, c60⟩ : ∃ v, I0 a1 0 = v := ⟨_, rfl⟩
          have b61 := hW0.2.2.2.2.2.1 a0 ta0 _ d2
          rw [c60] at b61
          have b62 := iv14_0 hW0 ta1 c60
          refine q_getI dX12_size_100 fl12_192 (kR14 hS37.1 ta1) ((hS37.cell ta1 (by decide +kernel)).trans c60) ?_
          exact tr_iret hZ dX12_size_103 rfl (by decide) (by decide) ⟨v59, rfl, rfl, rfl, rfl, rfl, rfl, hS37, trivial⟩
        · skip
          by_cases h63 : x1.toInt = 1
          · skip
            refine tr_tabIn (off := 66) 104 dX12_size_38 (by omega) (by omega) (by rw [h63]; decide +kernel) (by decide) ?_
            refine tr_aload_n dX12_size_104 rfl ?_
            refine tr_getR dX12_size_105 fl12_385 (kR15 hS37.1 ta0) d2 ?_
            obtain ⟨v64, c65⟩ : ∃ v, I0 a1 1 = v := ⟨_, rfl⟩
            have b66 := iv14_1 hW0 ta1 c65
            refine q_getI dX12_size_108 fl12_263 (kR14 hS37.1 ta1) ((hS37.cell ta1 (by decide +kernel)).trans c65) ?_
            exact tr_iret hZ dX12_size_111 rfl (by decide) (by decide) ⟨v64, rfl, rfl, rfl, rfl, rfl, rfl, hS37, trivial⟩
          · skip
            by_cases h67 : x1.toInt = 2
            · skip
              refine tr_tabIn (off := 74) 112 dX12_size_38 (by omega) (by omega) (by rw [h67]; decide +kernel) (by decide) ?_
              refine tr_aload_n dX12_size_112 rfl ?_
              refine tr_getR dX12_size_113 fl12_385 (kR15 hS37.1 ta0) d2 ?_
              obtain ⟨v68, c69⟩ : ∃ v, I0 a1 2 = v := ⟨_, rfl⟩
              have b70 := iv14_2 hW0 ta1 c69
              refine q_getI dX12_size_116 fl12_265 (kR14 hS37.1 ta1) ((hS37.cell ta1 (by decide +kernel)).trans c69) ?_
              exact tr_iret hZ dX12_size_119 rfl (by decide) (by decide) ⟨v68, rfl, rfl, rfl, rfl, rfl, rfl, hS37, trivial⟩
            · skip
              by_cases h71 : x1.toInt = 3
              · skip
                refine tr_tabIn (off := 82) 120 dX12_size_38 (by omega) (by omega) (by rw [h71]; decide +kernel) (by decide) ?_
                refine tr_aload_n dX12_size_120 rfl ?_
                obtain ⟨a72, d73, ta72⟩ := rf15_16 hW0 ta0
                refine tr_getR dX12_size_121 fl12_17 (kR15 hS37.1 ta0) d73 ?_
                refine q_iconst dX12_size_124 (by decide) ?_
                intro v74 h75
                obtain ⟨v76, c77⟩ : ∃ v, I0 a72 1 = v := ⟨_, rfl⟩
                have b78 := iv77_1 hW0 ta72 (by decide) c77
                refine q_iald dX12_size_125 (kR77 hS37.1 ta72) (ti_in (nR77 hS37.1 ta72) (by omega) (by omega)) ?_
                intro v79 c80
                rw [show v74.toNatClampNeg = 1 from ti_cl (by omega)] at c80
                obtain rfl : v76 = v79 := (((hS37.cell ta72 (by decide +kernel)).trans c77)).symm.trans c80
                exact tr_iret hZ dX12_size_126 rfl (by decide) (by decide) ⟨v76, rfl, rfl, rfl, rfl, rfl, rfl, hS37, trivial⟩
              · skip
                by_cases h81 : x1.toInt = 4
                · skip
                  refine tr_tabIn (off := 89) 127 dX12_size_38 (by omega) (by omega) (by rw [h81]; decide +kernel) (by decide) ?_
                  refine tr_aload_n dX12_size_127 rfl ?_
                  refine tr_getR dX12_size_128 fl12_385 (kR15 hS37.1 ta0) d2 ?_
                  obtain ⟨v82, c83⟩ : ∃ v, I0 a1 3 = v := ⟨_, rfl⟩
                  have b84 := iv14_3 hW0 ta1 c83
                  refine q_getI dX12_size_131 fl12_224 (kR14 hS37.1 ta1) ((hS37.cell ta1 (by decide +kernel)).trans c83) ?_
                  exact tr_iret hZ dX12_size_134 rfl (by decide) (by decide) ⟨v82, rfl, rfl, rfl, rfl, rfl, rfl, hS37, trivial⟩
                · skip
                  by_cases h85 : x1.toInt = 5
                  · skip
                    refine tr_tabIn (off := 97) 135 dX12_size_38 (by omega) (by omega) (by rw [h85]; decide +kernel) (by decide) ?_
                    refine tr_aload_n dX12_size_135 rfl ?_
                    refine tr_getR dX12_size_136 fl12_385 (kR15 hS37.1 ta0) d2 ?_
                    obtain ⟨v86, c87⟩ : ∃ v, I0 a1 4 = v := ⟨_, rfl⟩
                    have b88 := iv14_4 hW0 ta1 c87
                    refine q_getI dX12_size_139 fl12_315 (kR14 hS37.1 ta1) ((hS37.cell ta1 (by decide +kernel)).trans c87) ?_
                    exact tr_iret hZ dX12_size_142 rfl (by decide) (by decide) ⟨v86, rfl, rfl, rfl, rfl, rfl, rfl, hS37, trivial⟩
                  · skip
                    by_cases h89 : x1.toInt = 6
                    · skip
                      refine tr_tabIn (off := 105) 143 dX12_size_38 (by omega) (by omega) (by rw [h89]; decide +kernel) (by decide) ?_
                      refine tr_aload_n dX12_size_143 rfl ?_
                      refine tr_getR dX12_size_144 fl12_385 (kR15 hS37.1 ta0) d2 ?_
                      obtain ⟨v90, c91⟩ : ∃ v, I0 a1 5 = v := ⟨_, rfl⟩
                      have b92 := iv14_5 hW0 ta1 c91
                      refine q_getI dX12_size_147 fl12_349 (kR14 hS37.1 ta1) ((hS37.cell ta1 (by decide +kernel)).trans c91) ?_
                      exact tr_iret hZ dX12_size_150 rfl (by decide) (by decide) ⟨v90, rfl, rfl, rfl, rfl, rfl, rfl, hS37, trivial⟩
                    · skip
                      by_cases h93 : x1.toInt = 7
                      · skip
                        refine tr_tabIn (off := 113) 151 dX12_size_38 (by omega) (by omega) (by rw [h93]; decide +kernel) (by decide) ?_
                        refine tr_aload_n dX12_size_151 rfl ?_
                        refine tr_getR dX12_size_152 fl12_385 (kR15 hS37.1 ta0) d2 ?_
                        obtain ⟨v94, c95⟩ : ∃ v, I0 a1 6 = v := ⟨_, rfl⟩
                        have b96 := iv14_6 hW0 ta1 c95
                        refine q_getI dX12_size_155 fl12_370 (kR14 hS37.1 ta1) ((hS37.cell ta1 (by decide +kernel)).trans c95) ?_
                        exact tr_iret hZ dX12_size_158 rfl (by decide) (by decide) ⟨v94, rfl, rfl, rfl, rfl, rfl, rfl, hS37, trivial⟩
                      · skip
                        by_cases h97 : x1.toInt = 8
                        · skip
                          refine tr_tabIn (off := 121) 159 dX12_size_38 (by omega) (by omega) (by rw [h97]; decide +kernel) (by decide) ?_
                          refine tr_aload_n dX12_size_159 rfl ?_
                          refine tr_getR dX12_size_160 fl12_385 (kR15 hS37.1 ta0) d2 ?_
                          obtain ⟨v98, c99⟩ : ∃ v, I0 a1 8 = v := ⟨_, rfl⟩
                          have b100 := iv14_8 hW0 ta1 c99
                          refine q_getI dX12_size_163 fl12_312 (kR14 hS37.1 ta1) ((hS37.cell ta1 (by decide +kernel)).trans c99) ?_
                          exact tr_iret hZ dX12_size_166 rfl (by decide) (by decide) ⟨v98, rfl, rfl, rfl, rfl, rfl, rfl, hS37, trivial⟩
                        · skip
                          by_cases h101 : x1.toInt = 9
                          · skip
                            refine tr_tabIn (off := 129) 167 dX12_size_38 (by omega) (by omega) (by rw [h101]; decide +kernel) (by decide) ?_
                            refine tr_aload_n dX12_size_167 rfl ?_
                            obtain ⟨a102, d103, ta102⟩ := rf15_16 hW0 ta0
                            refine tr_getR dX12_size_168 fl12_17 (kR15 hS37.1 ta0) d103 ?_
                            refine q_iconst dX12_size_171 (by decide) ?_
                            intro v104 h105
                            obtain ⟨v106, c107⟩ : ∃ v, I0 a102 2 = v := ⟨_, rfl⟩
                            have b108 := iv77_2 hW0 ta102 (by decide) c107
                            refine q_iald dX12_size_172 (kR77 hS37.1 ta102) (ti_in (nR77 hS37.1 ta102) (by omega) (by omega)) ?_
                            intro v109 c110
                            rw [show v104.toNatClampNeg = 2 from ti_cl (by omega)] at c110
                            obtain rfl : v106 = v109 := (((hS37.cell ta102 (by decide +kernel)).trans c107)).symm.trans c110
                            exact tr_iret hZ dX12_size_173 rfl (by decide) (by decide) ⟨v106, rfl, rfl, rfl, rfl, rfl, rfl, hS37, trivial⟩
                          · skip
                            by_cases h111 : x1.toInt = 10
                            · skip
                              refine tr_tabIn (off := 136) 174 dX12_size_38 (by omega) (by omega) (by rw [h111]; decide +kernel) (by decide) ?_
                              refine tr_aload_n dX12_size_174 rfl ?_
                              obtain ⟨v112, c113⟩ : ∃ v, I0 a0 19 = v := ⟨_, rfl⟩
                              have b114 := iv15_19 hW0 ta0 c113
                              refine q_getI dX12_size_175 fl12_387 (kR15 hS37.1 ta0) ((hS37.cell ta0 (by decide +kernel)).trans c113) ?_
                              exact tr_iret hZ dX12_size_178 rfl (by decide) (by decide) ⟨v112, rfl, rfl, rfl, rfl, rfl, rfl, hS37, trivial⟩
                            · skip
                              refine tr_tabOut 179 dX12_size_38 (by omega) (by decide) ?_
                              refine tr_aload_n dX12_size_179 rfl ?_
                              obtain ⟨v115, c116⟩ : ∃ v, I0 a0 20 = v := ⟨_, rfl⟩
                              have b117 := iv15_20 hW0 ta0 c116
                              refine q_getI dX12_size_180 fl12_390 (kR15 hS37.1 ta0) ((hS37.cell ta0 (by decide +kernel)).trans c116) ?_
                              exact tr_iret hZ dX12_size_183 rfl (by decide) (by decide) ⟨v115, rfl, rfl, rfl, rfl, rfl, rfl, hS37, trivial⟩
      · skip
        refine q_iconst dX12_size_26 (by decide) ?_
        intro v118 h119
        exact tr_iret hZ dX12_size_27 rfl (by decide) (by decide) ⟨v118, rfl, rfl, rfl, rfl, rfl, rfl, hS37, trivial⟩
    · skip
      refine tr_aload_n dX12_size_11 rfl ?_
      obtain ⟨v120, c121⟩ : ∃ v, I0 a0 6 = v := ⟨_, rfl⟩
      have b122 := iv15_6 hW0 ta0 c121
      refine q_getI dX12_size_12 fl12_378 (kR15 hS37.1 ta0) ((hS37.cell ta0 (by decide +kernel)).trans c121) ?_
      exact tr_iret hZ dX12_size_15 rfl (by decide) (by decide) ⟨v120, rfl, rfl, rfl, rfl, rfl, rfl, hS37, trivial⟩
def wi_X12_trouble : List Nat := [960]
def wr_X12_trouble : List Nat := []
set_option maxHeartbeats 4000000 in
theorem k_X12_trouble {l : Launch} {T : Nat → Nat} {cn : Nat} {K N : Nat → Nat} {I0 : cz_I} {R0 : cz_R} {L0 : cz_L} {d : Int} (hW0 : Wf T cn K N I0 R0 d) {a0 : Nat} (ta0 : T a0 = 15) : ConE l mX12_trouble [.ref a0] cn K N I0 R0 L0 (ca_i (fun v cn' K' N' I' R' L' => cn = cn' ∧ K = K' ∧ N = N' ∧ R0 = R' ∧ L0 = L' ∧ St T cn K N d wi_X12_trouble wr_X12_trouble I0 R0 I' R0 ∧ True)) := by
  refine ConE.of (by decide +kernel) rfl (Nat.le_of_ble_eq_true rfl) rfl (fun X hX hZ hE => ?_)
  subst hX
  have hS0 : St T cn K N d wi_X12_trouble wr_X12_trouble I0 R0 I0 R0 := St.rf0 hW0
  refine tr_aload_n dX12_trouble_0 rfl ?_
  refine q_iconst dX12_trouble_1 (by decide) ?_
  intro v1 h2
  refine q_putI dX12_trouble_2 fl12_70 (kR15 hS0.1 ta0) (Or.inl rfl) hS0 ta0 (iokF rfl) rfl (by decide +kernel) ?_
  intro I3 hS4 e5 f6
  refine tr_aload_n dX12_trouble_5 rfl ?_
  obtain ⟨v7, c8⟩ : ∃ v, I0 a0 1 = v := ⟨_, rfl⟩
  refine q_getI dX12_trouble_6 fl12_73 (kR15 hS4.1 ta0) ((hS4.cell ta0 (by decide +kernel)).trans c8) ?_
  exact tr_iret hZ dX12_trouble_9 rfl (by decide) (by decide) ⟨v7, rfl, rfl, rfl, rfl, rfl, rfl, hS4, trivial⟩
def wi_X12_led : List Nat := [960, 5247, 5311, 5375, 5439, 5503, 5567, 5631, 5695, 5759, 5823, 5887, 5951, 6015]
def wr_X12_led : List Nat := []
set_option maxHeartbeats 4000000 in
theorem k_X12_led {l : Launch} {T : Nat → Nat} {cn : Nat} {K N : Nat → Nat} {I0 : cz_I} {R0 : cz_R} {L0 : cz_L} {d : Int} (hW0 : Wf T cn K N I0 R0 d) {a0 : Nat} (ta0 : T a0 = 15) {x1 : Int32} : ConE l mX12_led [.ref a0, .int x1] cn K N I0 R0 L0 (ca_i (fun v cn' K' N' I' R' L' => cn = cn' ∧ K = K' ∧ N = N' ∧ R0 = R' ∧ L0 = L' ∧ St T cn K N d wi_X12_led wr_X12_led I0 R0 I' R0 ∧ True)) := by
  refine ConE.of (by decide +kernel) rfl (Nat.le_of_ble_eq_true rfl) rfl (fun X hX hZ hE => ?_)
  subst hX
  have hS0 : St T cn K N d wi_X12_led wr_X12_led I0 R0 I0 R0 := St.rf0 hW0
  rcases rf15_3 hW0 ta0 with d2 | ⟨a1, d2, ta1⟩
  · skip
    refine tr_aload_n dX12_led_0 rfl ?_
    refine q_iconst dX12_led_1 (by decide) ?_
    intro v3 h4
    refine q_putI dX12_led_2 fl12_70 (kR15 hS0.1 ta0) (Or.inl rfl) hS0 ta0 (iokF rfl) rfl (by decide +kernel) ?_
    intro I5 hS6 e7 f8
    refine q_iconst dX12_led_5 (by decide) ?_
    intro v9 h10
    refine tr_istore_n dX12_led_6 (by decide) (by decide) ?_
    refine tr_aload_n dX12_led_7 rfl ?_
    refine tr_getN dX12_led_8 fl12_385 (kR15 hS6.1 ta0) d2 ?_
    refine tr_ifnullN 19 dX12_led_11 (by decide) ?_
    refine q_iconst dX12_led_19 (by decide) ?_
    intro v11 h12
    refine tr_istore_n dX12_led_20 (by decide) (by decide) ?_
    have lp22 : ∀ (fu : Nat) (ls : Nat → Option Value) (v13 : Int32) (v14 : Int32) (I19 : cz_I), ls 0 = some (.ref a0) → ls 1 = some (.int x1) → ls 2 = some (.int v13) → ls 3 = some (.int v14) → St T cn K N d wi_X12_led wr_X12_led I0 R0 I19 R0 → 0 ≤ v14.toInt → (-v14.toInt + 2147483647).toNat < fu → Tr X mX12_led 21 ls [] cn K N I19 R0 L0 0 0 := by
      intro fu
      induction fu with
      | zero => intros; rename_i hz; exact absurd hz (Nat.not_lt_zero _)
      | succ fu ih22 =>
        intro ls v13 v14 I19 hl15 hl16 hl17 hl18 hS20 g21 hm22
        refine tr_aload_n dX12_led_21 hl15 ?_
        refine tr_getN dX12_led_22 fl12_385 (kR15 hS20.1 ta0) d2 ?_
        refine tr_ifnullN 67 dX12_led_25 (by decide) ?_
        refine tr_aload_n dX12_led_67 hl15 ?_
        refine q_iconst dX12_led_68 (by decide) ?_
        intro v24 h25
        refine q_putI dX12_led_69 fl12_70 (kR15 hS20.1 ta0) (Or.inl rfl) hS20 ta0 (iokF rfl) rfl (by decide +kernel) ?_
        intro I26 hS27 e28 f29
        refine q_iconst dX12_led_72 (by decide) ?_
        intro v30 h31
        exact tr_iret hZ dX12_led_73 rfl (by decide) (by decide) ⟨v30, rfl, rfl, rfl, rfl, rfl, rfl, hS27, trivial⟩
    exact lp22 _ _ v9 v11 I5 rfl rfl rfl rfl hS6 (by omega) (Nat.lt_succ_self _)
  · skip
    refine tr_aload_n dX12_led_0 rfl ?_
    refine q_iconst dX12_led_1 (by decide) ?_
    intro v32 h33
    refine q_putI dX12_led_2 fl12_70 (kR15 hS0.1 ta0) (Or.inl rfl) hS0 ta0 (iokF rfl) rfl (by decide +kernel) ?_
    intro I34 hS35 e36 f37
    refine q_iconst dX12_led_5 (by decide) ?_
    intro v38 h39
    refine tr_istore_n dX12_led_6 (by decide) (by decide) ?_
    refine tr_aload_n dX12_led_7 rfl ?_
    refine tr_getR dX12_led_8 fl12_385 (kR15 hS35.1 ta0) d2 ?_
    refine tr_ifnull dX12_led_11 ?_
    refine tr_aload_n dX12_led_14 rfl ?_
    refine q_callVi hE (M' := mX12_tonight) (as := []) dX12_led_15 lk12_455 inX12_tonight seX12_tonight myX12_tonight (by decide) ⟨by decide, by decide⟩ rfl (kR15 hS35.1 ta0) (Nat.le_of_ble_eq_true rfl) rfl rfl (by decide) (by decide) (k_X12_tonight hS35.1 ta0 ⟨_, d2⟩) ?_
    rintro v44 cn' K' N' I40 R41 L42 ⟨rfl, rfl, rfl, rfl, rfl, g43, -⟩
    have hS45 := hS35.tr g43 (by decide +kernel) (by decide +kernel)
    have c46 : I40 a0 0 = v32 := (g43.cell ta0 (by decide +kernel)).trans e36
    refine tr_pop dX12_led_18 rfl ?_
    refine q_iconst dX12_led_19 (by decide) ?_
    intro v47 h48
    refine tr_istore_n dX12_led_20 (by decide) (by decide) ?_
    have lp58 : ∀ (fu : Nat) (ls : Nat → Option Value) (v49 : Int32) (v50 : Int32) (I55 : cz_I), ls 0 = some (.ref a0) → ls 1 = some (.int x1) → ls 2 = some (.int v49) → ls 3 = some (.int v50) → St T cn K N d wi_X12_led wr_X12_led I0 R0 I55 R0 → 0 ≤ v50.toInt → (-v50.toInt + 2147483647).toNat < fu → Tr X mX12_led 21 ls [] cn K N I55 R0 L0 0 0 := by
      intro fu
      induction fu with
      | zero => intros; rename_i hz; exact absurd hz (Nat.not_lt_zero _)
      | succ fu ih58 =>
        intro ls v49 v50 I55 hl51 hl52 hl53 hl54 hS56 g57 hm58
        refine tr_aload_n dX12_led_21 hl51 ?_
        refine tr_getR dX12_led_22 fl12_385 (kR15 hS56.1 ta0) d2 ?_
        refine tr_ifnull dX12_led_25 ?_
        refine tr_iload_n dX12_led_28 hl54 ?_
        refine tr_aload_n dX12_led_29 hl51 ?_
        refine tr_getR dX12_led_30 fl12_385 (kR15 hS56.1 ta0) d2 ?_
        obtain ⟨v60, c61⟩ : ∃ v, I0 a1 3 = v := ⟨_, rfl⟩
        have b62 := iv14_3 hW0 ta1 c61
        refine q_getI dX12_led_33 fl12_224 (kR14 hS56.1 ta1) ((hS56.cell ta1 (by decide +kernel)).trans c61) ?_
        refine q_icmp_ge 67 dX12_led_36 (by decide) (fun h63 => ?_) (fun h63 => ?_)
        · skip
          refine tr_aload_n dX12_led_67 hl51 ?_
          refine q_iconst dX12_led_68 (by decide) ?_
          intro v64 h65
          refine q_putI dX12_led_69 fl12_70 (kR15 hS56.1 ta0) (Or.inl rfl) hS56 ta0 (iokF rfl) rfl (by decide +kernel) ?_
          intro I66 hS67 e68 f69
          refine q_iconst dX12_led_72 (by decide) ?_
          intro v70 h71
          exact tr_iret hZ dX12_led_73 rfl (by decide) (by decide) ⟨v70, rfl, rfl, rfl, rfl, rfl, rfl, hS67, trivial⟩
        · skip
          refine tr_aload_n dX12_led_39 hl51 ?_
          obtain ⟨a72, d73, ta72⟩ := rf15_30 hW0 ta0
          refine tr_getR dX12_led_40 fl12_55 (kR15 hS56.1 ta0) d73 ?_
          refine tr_iload_n dX12_led_43 hl54 ?_
          refine q_iald dX12_led_44 (kR90 hS56.1 ta72) (ti_in (nR90 hS56.1 ta72) (by omega) (by omega)) ?_
          intro v74 c75
          refine q_if_ne 51 dX12_led_45 (by decide) (fun h76 => ?_) (fun h76 => ?_)
          · skip
            refine tr_iload_n dX12_led_51 hl53 ?_
            refine tr_iload_n dX12_led_52 hl52 ?_
            refine q_icmp_ne 58 dX12_led_53 (by decide) (fun h77 => ?_) (fun h77 => ?_)
            · skip
              refine q_iinc dX12_led_58 hl53 (by decide) ?_
              intro v78
              refine q_iincE dX12_led_61 hl54 (by decide) (by decide) (by intros; omega) ?_
              intro v79 h80
              refine tr_goto 21 dX12_led_64 (by decide) ?_
              exact ih58 _ v78 v79 I55 hl51 hl52 rfl rfl hS56 (by omega) (by omega)
            · skip
              refine tr_iload_n dX12_led_56 hl54 ?_
              exact tr_iret hZ dX12_led_57 rfl (by decide) (by decide) ⟨v50, rfl, rfl, rfl, rfl, rfl, rfl, hS56, trivial⟩
          · skip
            refine tr_goto 61 dX12_led_48 (by decide) ?_
            refine q_iincE dX12_led_61 hl54 (by decide) (by decide) (by intros; omega) ?_
            intro v81 h82
            refine tr_goto 21 dX12_led_64 (by decide) ?_
            exact ih58 _ v49 v81 I55 hl51 hl52 hl53 rfl hS56 (by omega) (by omega)
    exact lp58 _ _ v38 v47 I40 rfl rfl rfl rfl hS45 (by omega) (Nat.lt_succ_self _)
def wi_X12_flaw : List Nat := [969, 973, 974]
def wr_X12_flaw : List Nat := []
set_option maxHeartbeats 4000000 in
theorem k_X12_flaw {l : Launch} {T : Nat → Nat} {cn : Nat} {K N : Nat → Nat} {I0 : cz_I} {R0 : cz_R} {L0 : cz_L} {d : Int} (hW0 : Wf T cn K N I0 R0 d) {a0 : Nat} (ta0 : T a0 = 15) {x1 : Int32} (hx1 : 1 ≤ x1.toInt ∧ x1.toInt ≤ 6) : ConE l mX12_flaw [.ref a0, .int x1] cn K N I0 R0 L0 (ca_v (fun cn' K' N' I' R' L' => cn = cn' ∧ K = K' ∧ N = N' ∧ R0 = R' ∧ L0 = L' ∧ St T cn K N d wi_X12_flaw wr_X12_flaw I0 R0 I' R0 ∧ ((I' a0 9).toInt = 5) ∧ ((((I0 a0 9).toInt = 5 → (I0 a0 13).toInt ≥ 1) → (I' a0 13).toInt ≥ 1)) ∧ True)) := by
  refine ConE.of (by decide +kernel) rfl (Nat.le_of_ble_eq_true rfl) rfl (fun X hX hZ hE => ?_)
  subst hX
  have hS0 : St T cn K N d wi_X12_flaw wr_X12_flaw I0 R0 I0 R0 := St.rf0 hW0
  obtain ⟨v1, c2⟩ : ∃ v, I0 a0 9 = v := ⟨_, rfl⟩
  have b3 := iv15_9 hS0.1 ta0 c2
  obtain ⟨v4, c5⟩ : ∃ v, I0 a0 13 = v := ⟨_, rfl⟩
  refine tr_aload_n dX12_flaw_0 rfl ?_
  refine q_getI dX12_flaw_1 fl12_99 (kR15 hS0.1 ta0) c2 ?_
  refine q_iconst dX12_flaw_4 (by decide) ?_
  intro v6 h7
  refine q_icmp_ne 9 dX12_flaw_5 (by decide) (fun h8 => ?_) (fun h8 => ?_)
  · skip
    refine tr_aload_n dX12_flaw_9 rfl ?_
    refine tr_iload_n dX12_flaw_10 rfl ?_
    refine q_putI dX12_flaw_11 fl12_128 (kR15 hS0.1 ta0) (Or.inl rfl) hS0 ta0 (iokF rfl) rfl (by decide +kernel) ?_
    intro I9 hS10 e11 f12
    have c13 : I9 a0 9 = v1 := (f12 _ _ (fun q => absurd q.2 (by decide))).trans c2
    refine tr_aload_n dX12_flaw_14 rfl ?_
    refine tr_aload_n dX12_flaw_15 rfl ?_
    obtain ⟨v14, c15⟩ : ∃ v, I0 a0 10 = v := ⟨_, rfl⟩
    have b16 := iv15_10 hW0 ta0 c15
    refine q_getI dX12_flaw_16 fl12_108 (kR15 hS10.1 ta0) ((hS10.cell ta0 (by decide +kernel)).trans c15) ?_
    refine q_putI dX12_flaw_19 fl12_131 (kR15 hS10.1 ta0) (Or.inl rfl) hS10 ta0 (iokF rfl) rfl (by decide +kernel) ?_
    intro I17 hS18 e19 f20
    have c21 : I17 a0 9 = v1 := (f20 _ _ (fun q => absurd q.2 (by decide))).trans c13
    have c22 : I17 a0 13 = x1 := (f20 _ _ (fun q => absurd q.2 (by decide))).trans e11
    refine tr_aload_n dX12_flaw_22 rfl ?_
    refine q_iconst dX12_flaw_23 (by decide) ?_
    intro v23 h24
    refine q_putI dX12_flaw_24 fl12_99 (kR15 hS18.1 ta0) (Or.inl rfl) hS18 ta0 (by show (0 : Int) ≤ v23.toInt ∧ v23.toInt ≤ (5 : Int); omega) rfl (by decide +kernel) ?_
    intro I25 hS26 e27 f28
    have c29 : I25 a0 13 = x1 := (f28 _ _ (fun q => absurd q.2 (by decide))).trans c22
    have c30 : I25 a0 14 = v14 := (f28 _ _ (fun q => absurd q.2 (by decide))).trans e19
    exact tr_vret hZ dX12_flaw_27 rfl (by decide) (by decide) ⟨rfl, rfl, rfl, rfl, rfl, rfl, hS26, (by (try rw [e27]); (try omega)), (by (try rw [c2]); (try rw [c5]); (try rw [c29]); (try omega)), trivial⟩
  · skip
    exact tr_vret hZ dX12_flaw_8 rfl (by decide) (by decide) ⟨rfl, rfl, rfl, rfl, rfl, rfl, hS0, (by (try rw [c2]); (try omega)), (by (try rw [c2]); (try rw [c5]); (try omega)), trivial⟩
set_option maxHeartbeats 4000000 in
theorem k_X12_isWord {l : Launch} {T : Nat → Nat} {cn : Nat} {K N : Nat → Nat} {I0 : cz_I} {R0 : cz_R} {L0 : cz_L} {d : Int} (hW0 : Wf T cn K N I0 R0 d) {a0 : Nat} (ta0 : T a0 = 15) {u1 : UInt32} (hu1 : u1.toNat < cz_NS) : ConE l mX12_isWord [.ref a0, .float u1] cn K N I0 R0 L0 (ca_i (fun v cn' K' N' I' R' L' => cn = cn' ∧ K = K' ∧ N = N' ∧ I0 = I' ∧ R0 = R' ∧ L0 = L' ∧ (0 ≤ v.toInt ∧ v.toInt ≤ 1) ∧ ((v.toInt = 1 → (I0 a0 9).toInt = 2)) ∧ True)) := by
  refine ConE.of (by decide +kernel) rfl (Nat.le_of_ble_eq_true rfl) rfl (fun X hX hZ hE => ?_)
  subst hX
  obtain ⟨v1, c2⟩ : ∃ v, I0 a0 9 = v := ⟨_, rfl⟩
  have b3 := iv15_9 hW0 ta0 c2
  refine tr_aload_n dX12_isWord_0 rfl ?_
  refine q_getI dX12_isWord_1 fl12_99 (kR15 hW0 ta0) c2 ?_
  refine q_iconst dX12_isWord_4 (by decide) ?_
  intro v4 h5
  refine q_icmp_ne 24 dX12_isWord_5 (by decide) (fun h6 => ?_) (fun h6 => ?_)
  · skip
    refine q_iconst dX12_isWord_24 (by decide) ?_
    intro v7 h8
    exact tr_zret hZ dX12_isWord_25 rfl (ti_b01 (by omega) (by omega)) (by decide) (by decide) ⟨v7, rfl, rfl, rfl, rfl, rfl, rfl, rfl, (by omega), (by (try rw [c2]); (try omega)), trivial⟩
  · skip
    refine tr_aload_n dX12_isWord_8 rfl ?_
    refine q_getL dX12_isWord_9 fl12_118 (kR15 hW0 ta0) ?_
    intro y9
    refine tr_aload_nS dX12_isWord_12 rfl ?_
    refine q_callSl hE (M' := mX12_wordOf) (as := [_]) dX12_isWord_13 lk12_134 inX12_wordOf myX12_wordOf ⟨by decide, by decide⟩ rfl (Nat.le_of_ble_eq_true rfl) rfl rfl (by decide) (by decide) (k_X12_wordOf hW0 hu1) ?_
    rintro y14 cn' K' N' I10 R11 L12 ⟨rfl, rfl, rfl, rfl, rfl, rfl, -⟩
    refine q_lcmp dX12_isWord_16 ?_
    intro v15
    refine q_if_ne 24 dX12_isWord_17 (by decide) (fun h16 => ?_) (fun h16 => ?_)
    · skip
      refine q_iconst dX12_isWord_24 (by decide) ?_
      intro v17 h18
      exact tr_zret hZ dX12_isWord_25 rfl (ti_b01 (by omega) (by omega)) (by decide) (by decide) ⟨v17, rfl, rfl, rfl, rfl, rfl, rfl, rfl, (by omega), (by (try rw [c2]); (try omega)), trivial⟩
    · skip
      refine q_iconst dX12_isWord_20 (by decide) ?_
      intro v19 h20
      refine tr_goto 25 dX12_isWord_21 (by decide) ?_
      exact tr_zret hZ dX12_isWord_25 rfl (ti_b01 (by omega) (by omega)) (by decide) (by decide) ⟨v19, rfl, rfl, rfl, rfl, rfl, rfl, rfl, (by omega), (by (try rw [c2]); (try omega)), trivial⟩
set_option maxHeartbeats 4000000 in
theorem k_X12_byteAt {l : Launch} {T : Nat → Nat} {cn : Nat} {K N : Nat → Nat} {I0 : cz_I} {R0 : cz_R} {L0 : cz_L} {d : Int} (hW0 : Wf T cn K N I0 R0 d) {a0 : Nat} (ta0 : T a0 = 15) {x1 : Int32} (hx1 : 0 ≤ x1.toInt ∧ x1.toInt ≤ 900) : ConE l mX12_byteAt [.ref a0, .int x1] cn K N I0 R0 L0 (ca_i (fun v cn' K' N' I' R' L' => cn = cn' ∧ K = K' ∧ N = N' ∧ I0 = I' ∧ R0 = R' ∧ L0 = L' ∧ (((I0 a0 7).toInt ≤ x1.toInt → v.toInt = -1)) ∧ v = m_by I0 R0 a0 x1 ∧ True)) := by
  refine ConE.of (by decide +kernel) rfl (Nat.le_of_ble_eq_true rfl) rfl (fun X hX hZ hE => ?_)
  subst hX
  obtain ⟨v1, c2⟩ : ∃ v, I0 a0 7 = v := ⟨_, rfl⟩
  have b3 := iv15_7 hW0 ta0 c2
  refine tr_iload_n dX12_byteAt_0 rfl ?_
  refine tr_aload_n dX12_byteAt_1 rfl ?_
  refine q_getI dX12_byteAt_2 fl12_84 (kR15 hW0 ta0) c2 ?_
  refine q_icmp_ge 21 dX12_byteAt_5 (by decide) (fun h4 => ?_) (fun h4 => ?_)
  · skip
    refine q_iconst dX12_byteAt_21 (by decide) ?_
    intro v5 h6
    exact tr_iret hZ dX12_byteAt_22 rfl (by decide) (by decide) ⟨v5, rfl, rfl, rfl, rfl, rfl, rfl, rfl, (by (try rw [c2]); (try omega)), (by rw [m_by, c2, if_neg (by omega)]; exact Int32.toInt_inj.mp (show v5.toInt = (-1 : Int32).toInt from h6.trans rfl)), trivial⟩
  · skip
    refine tr_aload_n dX12_byteAt_8 rfl ?_
    obtain ⟨a7, d8, ta7⟩ := rf15_5 hW0 ta0
    refine tr_getR dX12_byteAt_9 fl12_13 (kR15 hW0 ta0) d8 ?_
    refine tr_iload_n dX12_byteAt_12 rfl ?_
    refine q_bald dX12_byteAt_13 (kR76 hW0 ta7) (ti_in (nR76 hW0 ta7) (by omega) (by omega)) ?_
    intro v9 c10
    refine q_sipush dX12_byteAt_14 (by decide +kernel) ?_
    intro v11 h12
    refine q_iandE dX12_byteAt_17 ?_
    intro v13 h14
    refine tr_goto 22 dX12_byteAt_18 (by decide) ?_
    exact tr_iret hZ dX12_byteAt_22 rfl (by decide) (by decide) ⟨v13, rfl, rfl, rfl, rfl, rfl, rfl, rfl, (by (try rw [c2]); (try omega)), (by rw [m_by, c2, if_pos (by omega), rg_s d8, c10, h14, Int32.toInt_inj.mp (show v11.toInt = (255 : Int32).toInt from h12.trans rfl)]), trivial⟩
set_option maxHeartbeats 4000000 in
theorem k_X12_isLetter {l : Launch} {T : Nat → Nat} {cn : Nat} {K N : Nat → Nat} {I0 : cz_I} {R0 : cz_R} {L0 : cz_L} {d : Int} (hW0 : Wf T cn K N I0 R0 d) {x0 : Int32} : ConE l mX12_isLetter [.int x0] cn K N I0 R0 L0 (ca_i (fun v cn' K' N' I' R' L' => cn = cn' ∧ K = K' ∧ N = N' ∧ I0 = I' ∧ R0 = R' ∧ L0 = L' ∧ (0 ≤ v.toInt ∧ v.toInt ≤ 1) ∧ ((v.toInt = 1 → (97 ≤ x0.toInt ∧ x0.toInt ≤ 122))) ∧ ((v.toInt = 0 → (x0.toInt < 97 ∨ x0.toInt > 122))) ∧ True)) := by
  refine ConE.of (by decide +kernel) rfl (Nat.le_of_ble_eq_true rfl) rfl (fun X hX hZ hE => ?_)
  subst hX
  refine tr_iload_n dX12_isLetter_0 rfl ?_
  refine q_bipush dX12_isLetter_1 (by decide +kernel) ?_
  intro v1 h2
  refine q_icmp_lt 16 dX12_isLetter_3 (by decide) (fun h3 => ?_) (fun h3 => ?_)
  · skip
    refine q_iconst dX12_isLetter_16 (by decide) ?_
    intro v4 h5
    exact tr_zret hZ dX12_isLetter_17 rfl (ti_b01 (by omega) (by omega)) (by decide) (by decide) ⟨v4, rfl, rfl, rfl, rfl, rfl, rfl, rfl, (by omega), (by omega), (by omega), trivial⟩
  · skip
    refine tr_iload_n dX12_isLetter_6 rfl ?_
    refine q_bipush dX12_isLetter_7 (by decide +kernel) ?_
    intro v6 h7
    refine q_icmp_gt 16 dX12_isLetter_9 (by decide) (fun h8 => ?_) (fun h8 => ?_)
    · skip
      refine q_iconst dX12_isLetter_16 (by decide) ?_
      intro v9 h10
      exact tr_zret hZ dX12_isLetter_17 rfl (ti_b01 (by omega) (by omega)) (by decide) (by decide) ⟨v9, rfl, rfl, rfl, rfl, rfl, rfl, rfl, (by omega), (by omega), (by omega), trivial⟩
    · skip
      refine q_iconst dX12_isLetter_12 (by decide) ?_
      intro v11 h12
      refine tr_goto 17 dX12_isLetter_13 (by decide) ?_
      exact tr_zret hZ dX12_isLetter_17 rfl (ti_b01 (by omega) (by omega)) (by decide) (by decide) ⟨v11, rfl, rfl, rfl, rfl, rfl, rfl, rfl, (by omega), (by omega), (by omega), trivial⟩
set_option maxHeartbeats 4000000 in
theorem k_X12_isDigit {l : Launch} {T : Nat → Nat} {cn : Nat} {K N : Nat → Nat} {I0 : cz_I} {R0 : cz_R} {L0 : cz_L} {d : Int} (hW0 : Wf T cn K N I0 R0 d) {x0 : Int32} : ConE l mX12_isDigit [.int x0] cn K N I0 R0 L0 (ca_i (fun v cn' K' N' I' R' L' => cn = cn' ∧ K = K' ∧ N = N' ∧ I0 = I' ∧ R0 = R' ∧ L0 = L' ∧ (0 ≤ v.toInt ∧ v.toInt ≤ 1) ∧ ((v.toInt = 1 → (48 ≤ x0.toInt ∧ x0.toInt ≤ 57))) ∧ ((v.toInt = 0 → (x0.toInt < 48 ∨ x0.toInt > 57))) ∧ True)) := by
  refine ConE.of (by decide +kernel) rfl (Nat.le_of_ble_eq_true rfl) rfl (fun X hX hZ hE => ?_)
  subst hX
  refine tr_iload_n dX12_isDigit_0 rfl ?_
  refine q_bipush dX12_isDigit_1 (by decide +kernel) ?_
  intro v1 h2
  refine q_icmp_lt 16 dX12_isDigit_3 (by decide) (fun h3 => ?_) (fun h3 => ?_)
  · skip
    refine q_iconst dX12_isDigit_16 (by decide) ?_
    intro v4 h5
    exact tr_zret hZ dX12_isDigit_17 rfl (ti_b01 (by omega) (by omega)) (by decide) (by decide) ⟨v4, rfl, rfl, rfl, rfl, rfl, rfl, rfl, (by omega), (by omega), (by omega), trivial⟩
  · skip
    refine tr_iload_n dX12_isDigit_6 rfl ?_
    refine q_bipush dX12_isDigit_7 (by decide +kernel) ?_
    intro v6 h7
    refine q_icmp_gt 16 dX12_isDigit_9 (by decide) (fun h8 => ?_) (fun h8 => ?_)
    · skip
      refine q_iconst dX12_isDigit_16 (by decide) ?_
      intro v9 h10
      exact tr_zret hZ dX12_isDigit_17 rfl (ti_b01 (by omega) (by omega)) (by decide) (by decide) ⟨v9, rfl, rfl, rfl, rfl, rfl, rfl, rfl, (by omega), (by omega), (by omega), trivial⟩
    · skip
      refine q_iconst dX12_isDigit_12 (by decide) ?_
      intro v11 h12
      refine tr_goto 17 dX12_isDigit_13 (by decide) ?_
      exact tr_zret hZ dX12_isDigit_17 rfl (ti_b01 (by omega) (by omega)) (by decide) (by decide) ⟨v11, rfl, rfl, rfl, rfl, rfl, rfl, rfl, (by omega), (by omega), (by omega), trivial⟩
def wi_X12_goesOn : List Nat := [968, 969, 970, 971, 972]
def wr_X12_goesOn : List Nat := []
set_option maxHeartbeats 4000000 in
theorem k_X12_goesOn {l : Launch} {T : Nat → Nat} {cn : Nat} {K N : Nat → Nat} {I0 : cz_I} {R0 : cz_R} {L0 : cz_L} {d : Int} (hW0 : Wf T cn K N I0 R0 d) {a0 : Nat} (ta0 : T a0 = 15) : ConE l mX12_goesOn [.ref a0] cn K N I0 R0 L0 (ca_v (fun cn' K' N' I' R' L' => cn = cn' ∧ K = K' ∧ N = N' ∧ R0 = R' ∧ St T cn K N d wi_X12_goesOn wr_X12_goesOn I0 R0 I' R0 ∧ (((I0 a0 9).toInt = 5 → ((I' a0 9).toInt = 5 ∧ (I' a0 8).toInt = (I0 a0 8).toInt))) ∧ (((I0 a0 9).toInt ≠ 5 → (I' a0 9).toInt ≠ 5)) ∧ ((I' a0 8).toInt ≥ (I0 a0 8).toInt) ∧ (((((I0 a0 9).toInt ≠ 5 ∧ 2 ≤ (I' a0 9).toInt) ∧ (I' a0 9).toInt ≤ 4) → (I' a0 8).toInt ≥ (I0 a0 8).toInt + 1)) ∧ True)) := by
  refine ConE.of (by decide +kernel) rfl (Nat.le_of_ble_eq_true rfl) rfl (fun X hX hZ hE => ?_)
  subst hX
  have hS0 : St T cn K N d wi_X12_goesOn wr_X12_goesOn I0 R0 I0 R0 := St.rf0 hW0
  obtain ⟨v1, c2⟩ : ∃ v, I0 a0 9 = v := ⟨_, rfl⟩
  have b3 := iv15_9 hS0.1 ta0 c2
  obtain ⟨v4, c5⟩ : ∃ v, I0 a0 8 = v := ⟨_, rfl⟩
  have b6 := iv15_8 hS0.1 ta0 c5
  refine tr_aload_n dX12_goesOn_0 rfl ?_
  refine q_getI dX12_goesOn_1 fl12_99 (kR15 hS0.1 ta0) c2 ?_
  refine q_iconst dX12_goesOn_4 (by decide) ?_
  intro v7 h8
  refine q_icmp_ne 9 dX12_goesOn_5 (by decide) (fun h9 => ?_) (fun h9 => ?_)
  · skip
    have lp17 : ∀ (fu : Nat) (ls : Nat → Option Value) (I11 : cz_I) (L12 : cz_L) (v14 : Int32), ls 0 = some (.ref a0) → St T cn K N d wi_X12_goesOn wr_X12_goesOn I0 R0 I11 R0 → I11 a0 8 = v14 → v14.toInt ≥ v4.toInt → (-v14.toInt + 900).toNat < fu → Tr X mX12_goesOn 9 ls [] cn K N I11 R0 L12 0 0 := by
      intro fu
      induction fu with
      | zero => intros; rename_i hz; exact absurd hz (Nat.not_lt_zero _)
      | succ fu ih17 =>
        intro ls I11 L12 v14 hl10 hS13 c15 g16 hm17
        have b19 := iv15_8 hS13.1 ta0 c15
        refine tr_aload_n dX12_goesOn_9 hl10 ?_
        refine tr_aload_n dX12_goesOn_10 hl10 ?_
        refine q_getI dX12_goesOn_11 fl12_102 (kR15 hS13.1 ta0) c15 ?_
        obtain ⟨v20, c21⟩ : ∃ v, I0 a0 7 = v := ⟨_, rfl⟩
        have b22 := iv15_7 hW0 ta0 c21
        refine q_callVi hE (M' := mX12_byteAt) (as := [_]) dX12_goesOn_14 lk12_105 inX12_byteAt seX12_byteAt myX12_byteAt (by decide) ⟨by decide, by decide⟩ rfl (kR15 hS13.1 ta0) (Nat.le_of_ble_eq_true rfl) rfl rfl (by decide) (by decide) (k_X12_byteAt hS13.1 ta0 (by omega)) ?_
        rintro v27 cn' K' N' I23 R24 L25 ⟨rfl, rfl, rfl, rfl, rfl, rfl, p28, r29, -⟩
        have p30 := p28
        rw [((hS13.cell ta0 (by decide +kernel)).trans c21)] at p30
        refine q_bipush dX12_goesOn_17 (by decide +kernel) ?_
        intro v31 h32
        refine q_icmp_ne 35 dX12_goesOn_19 (by decide) (fun h33 => ?_) (fun h33 => ?_)
        · skip
          refine tr_aload_n dX12_goesOn_35 hl10 ?_
          refine tr_aload_n dX12_goesOn_36 hl10 ?_
          refine q_getI dX12_goesOn_37 fl12_102 (kR15 hS13.1 ta0) c15 ?_
          refine q_putI dX12_goesOn_40 fl12_108 (kR15 hS13.1 ta0) (Or.inl rfl) hS13 ta0 (by show (0 : Int) ≤ v14.toInt ∧ v14.toInt ≤ (900 : Int); omega) rfl (by decide +kernel) ?_
          intro I34 hS35 e36 f37
          have c38 : I34 a0 8 = v14 := (f37 _ _ (fun q => absurd q.2 (by decide))).trans c15
          obtain ⟨a39, d40, ta39⟩ := rf15_5 hW0 ta0
          have r41 : v27 = m_by I34 R0 a0 v14 := r29.trans (m_by_kp d40 (f37 _ _ (fun q => absurd q.2 (by decide))) (fun i => f37 _ _ (fun q => by have z := ta39; rw [q.1, ta0] at z; exact absurd z (by decide))))
          refine tr_aload_n dX12_goesOn_43 hl10 ?_
          refine q_iconst dX12_goesOn_44 (by decide) ?_
          intro v42 h43
          refine q_putI dX12_goesOn_45 fl12_99 (kR15 hS35.1 ta0) (Or.inl rfl) hS35 ta0 (by show (0 : Int) ≤ v42.toInt ∧ v42.toInt ≤ (5 : Int); omega) rfl (by decide +kernel) ?_
          intro I44 hS45 e46 f47
          have c48 : I44 a0 8 = v14 := (f47 _ _ (fun q => absurd q.2 (by decide))).trans c38
          have c49 : I44 a0 10 = v14 := (f47 _ _ (fun q => absurd q.2 (by decide))).trans e36
          have r50 : v27 = m_by I44 R0 a0 v14 := r41.trans (m_by_kp d40 (f47 _ _ (fun q => absurd q.2 (by decide))) (fun i => f47 _ _ (fun q => by have z := ta39; rw [q.1, ta0] at z; exact absurd z (by decide))))
          refine tr_aload_n dX12_goesOn_48 hl10 ?_
          refine q_iconst dX12_goesOn_49 (by decide) ?_
          intro v51 h52
          refine q_putI dX12_goesOn_50 fl12_111 (kR15 hS45.1 ta0) (Or.inl rfl) hS45 ta0 (iokF rfl) rfl (by decide +kernel) ?_
          intro I53 hS54 e55 f56
          have c57 : I53 a0 8 = v14 := (f56 _ _ (fun q => absurd q.2 (by decide))).trans c48
          have c58 : I53 a0 10 = v14 := (f56 _ _ (fun q => absurd q.2 (by decide))).trans c49
          have c59 : I53 a0 9 = v42 := (f56 _ _ (fun q => absurd q.2 (by decide))).trans e46
          have r60 : v27 = m_by I53 R0 a0 v14 := r50.trans (m_by_kp d40 (f56 _ _ (fun q => absurd q.2 (by decide))) (fun i => f56 _ _ (fun q => by have z := ta39; rw [q.1, ta0] at z; exact absurd z (by decide))))
          refine tr_aload_n dX12_goesOn_53 hl10 ?_
          refine tr_aload_n dX12_goesOn_54 hl10 ?_
          refine q_getI dX12_goesOn_55 fl12_102 (kR15 hS54.1 ta0) c57 ?_
          refine q_callVi hE (M' := mX12_byteAt) (as := [_]) dX12_goesOn_58 lk12_105 inX12_byteAt seX12_byteAt myX12_byteAt (by decide) ⟨by decide, by decide⟩ rfl (kR15 hS54.1 ta0) (Nat.le_of_ble_eq_true rfl) rfl rfl (by decide) (by decide) (k_X12_byteAt hS54.1 ta0 (by omega)) ?_
          rintro v65 cn' K' N' I61 R62 L63 ⟨rfl, rfl, rfl, rfl, rfl, rfl, p66, r67, -⟩
          obtain rfl : v27 = v65 := r60.trans r67.symm
          have p68 := p66
          rw [((hS54.cell ta0 (by decide +kernel)).trans c21)] at p68
          refine tr_istore_n dX12_goesOn_61 (by decide) (by decide) ?_
          refine q_iconst dX12_goesOn_62 (by decide) ?_
          intro v69 h70
          refine tr_istore_n dX12_goesOn_63 (by decide) (by decide) ?_
          refine tr_iload_n dX12_goesOn_64 rfl ?_
          refine q_iconst dX12_goesOn_65 (by decide) ?_
          intro v71 h72
          refine q_icmp_ne 77 dX12_goesOn_66 (by decide) (fun h73 => ?_) (fun h73 => ?_)
          · skip
            refine tr_iload_n dX12_goesOn_77 rfl ?_
            refine q_callSi hE (M' := mX12_isLetter) (as := [_]) dX12_goesOn_78 lk12_114 inX12_isLetter myX12_isLetter ⟨by decide, by decide⟩ rfl (Nat.le_of_ble_eq_true rfl) rfl rfl (by decide) (by decide) (k_X12_isLetter hS54.1 ) ?_
            rintro v78 cn' K' N' I74 R75 L76 ⟨rfl, rfl, rfl, rfl, rfl, rfl, h79, p80, p81, -⟩
            have p82 := p80
            have p83 := p81
            refine q_if_eq 166 dX12_goesOn_81 (by decide) (fun h84 => ?_) (fun h84 => ?_)
            · skip
              refine tr_iload_n dX12_goesOn_166 rfl ?_
              refine q_callSi hE (M' := mX12_isDigit) (as := [_]) dX12_goesOn_167 lk12_122 inX12_isDigit myX12_isDigit ⟨by decide, by decide⟩ rfl (Nat.le_of_ble_eq_true rfl) rfl rfl (by decide) (by decide) (k_X12_isDigit hS54.1 ) ?_
              rintro v89 cn' K' N' I85 R86 L87 ⟨rfl, rfl, rfl, rfl, rfl, rfl, h90, p91, p92, -⟩
              have p93 := p91
              have p94 := p92
              refine q_if_eq 249 dX12_goesOn_170 (by decide) (fun h95 => ?_) (fun h95 => ?_)
              · skip
                refine tr_iload_n dX12_goesOn_249 rfl ?_
                refine q_bipush dX12_goesOn_250 (by decide +kernel) ?_
                intro v96 h97
                refine q_icmp_eq 261 dX12_goesOn_252 (by decide) (fun h98 => ?_) (fun h98 => ?_)
                · skip
                  refine tr_aload_n dX12_goesOn_261 hl10 ?_
                  refine q_iconst dX12_goesOn_262 (by decide) ?_
                  intro v99 h100
                  refine q_putI dX12_goesOn_263 fl12_99 (kR15 hS54.1 ta0) (Or.inl rfl) hS54 ta0 (by show (0 : Int) ≤ v99.toInt ∧ v99.toInt ≤ (5 : Int); omega) rfl (by decide +kernel) ?_
                  intro I101 hS102 e103 f104
                  have c105 : I101 a0 8 = v14 := (f104 _ _ (fun q => absurd q.2 (by decide))).trans c57
                  have c106 : I101 a0 10 = v14 := (f104 _ _ (fun q => absurd q.2 (by decide))).trans c58
                  have c107 : I101 a0 11 = v51 := (f104 _ _ (fun q => absurd q.2 (by decide))).trans e55
                  have r108 : v27 = m_by I101 R0 a0 v14 := r60.trans (m_by_kp d40 (f104 _ _ (fun q => absurd q.2 (by decide))) (fun i => f104 _ _ (fun q => by have z := ta39; rw [q.1, ta0] at z; exact absurd z (by decide))))
                  refine tr_aload_n dX12_goesOn_266 hl10 ?_
                  refine tr_iload_n dX12_goesOn_267 rfl ?_
                  refine q_putI dX12_goesOn_268 fl12_111 (kR15 hS102.1 ta0) (Or.inl rfl) hS102 ta0 (iokF rfl) rfl (by decide +kernel) ?_
                  intro I109 hS110 e111 f112
                  have c113 : I109 a0 8 = v14 := (f112 _ _ (fun q => absurd q.2 (by decide))).trans c105
                  have c114 : I109 a0 10 = v14 := (f112 _ _ (fun q => absurd q.2 (by decide))).trans c106
                  have c115 : I109 a0 9 = v99 := (f112 _ _ (fun q => absurd q.2 (by decide))).trans e103
                  have r116 : v27 = m_by I109 R0 a0 v14 := r108.trans (m_by_kp d40 (f112 _ _ (fun q => absurd q.2 (by decide))) (fun i => f112 _ _ (fun q => by have z := ta39; rw [q.1, ta0] at z; exact absurd z (by decide))))
                  refine tr_aload_n dX12_goesOn_271 hl10 ?_
                  refine tr_dup dX12_goesOn_272 rfl ?_
                  refine q_getI dX12_goesOn_273 fl12_102 (kR15 hS110.1 ta0) c113 ?_
                  refine q_iconst dX12_goesOn_276 (by decide) ?_
                  intro v117 h118
                  refine q_iaddE dX12_goesOn_277 (by intros; omega) ?_
                  intro v119 h120
                  refine q_putI dX12_goesOn_278 fl12_102 (kR15 hS110.1 ta0) (Or.inl rfl) hS110 ta0 (by show (0 : Int) ≤ v119.toInt ∧ v119.toInt ≤ (900 : Int); omega) rfl (by decide +kernel) ?_
                  intro I121 hS122 e123 f124
                  have c125 : I121 a0 10 = v14 := (f124 _ _ (fun q => absurd q.2 (by decide))).trans c114
                  have c126 : I121 a0 9 = v99 := (f124 _ _ (fun q => absurd q.2 (by decide))).trans c115
                  have c127 : I121 a0 11 = v27 := (f124 _ _ (fun q => absurd q.2 (by decide))).trans e111
                  have r128 : v27 = m_by I121 R0 a0 v14 := r116.trans (m_by_kp d40 (f124 _ _ (fun q => absurd q.2 (by decide))) (fun i => f124 _ _ (fun q => by have z := ta39; rw [q.1, ta0] at z; exact absurd z (by decide))))
                  exact tr_vret hZ dX12_goesOn_281 rfl (by decide) (by decide) ⟨rfl, rfl, rfl, rfl, rfl, hS122, (by (try rw [c2]); (try rw [c126]); (try rw [e123]); (try rw [c5]); (try omega)), (by (try rw [c2]); (try rw [c126]); (try omega)), (by (try rw [e123]); (try rw [c5]); (try omega)), (by (try rw [c2]); (try rw [c126]); (try rw [e123]); (try rw [c5]); (try omega)), trivial⟩
                · skip
                  refine tr_iload_n dX12_goesOn_255 rfl ?_
                  refine q_bipush dX12_goesOn_256 (by decide +kernel) ?_
                  intro v129 h130
                  refine q_icmp_ne 281 dX12_goesOn_258 (by decide) (fun h131 => ?_) (fun h131 => ?_)
                  · skip
                    exact tr_vret hZ dX12_goesOn_281 rfl (by decide) (by decide) ⟨rfl, rfl, rfl, rfl, rfl, hS54, (by (try rw [c2]); (try rw [c59]); (try rw [c57]); (try rw [c5]); (try omega)), (by (try rw [c2]); (try rw [c59]); (try omega)), (by (try rw [c57]); (try rw [c5]); (try omega)), (by (try rw [c2]); (try rw [c59]); (try rw [c57]); (try rw [c5]); (try omega)), trivial⟩
                  · skip
                    refine tr_aload_n dX12_goesOn_261 hl10 ?_
                    refine q_iconst dX12_goesOn_262 (by decide) ?_
                    intro v132 h133
                    refine q_putI dX12_goesOn_263 fl12_99 (kR15 hS54.1 ta0) (Or.inl rfl) hS54 ta0 (by show (0 : Int) ≤ v132.toInt ∧ v132.toInt ≤ (5 : Int); omega) rfl (by decide +kernel) ?_
                    intro I134 hS135 e136 f137
                    have c138 : I134 a0 8 = v14 := (f137 _ _ (fun q => absurd q.2 (by decide))).trans c57
                    have c139 : I134 a0 10 = v14 := (f137 _ _ (fun q => absurd q.2 (by decide))).trans c58
                    have c140 : I134 a0 11 = v51 := (f137 _ _ (fun q => absurd q.2 (by decide))).trans e55
                    have r141 : v27 = m_by I134 R0 a0 v14 := r60.trans (m_by_kp d40 (f137 _ _ (fun q => absurd q.2 (by decide))) (fun i => f137 _ _ (fun q => by have z := ta39; rw [q.1, ta0] at z; exact absurd z (by decide))))
                    refine tr_aload_n dX12_goesOn_266 hl10 ?_
                    refine tr_iload_n dX12_goesOn_267 rfl ?_
                    refine q_putI dX12_goesOn_268 fl12_111 (kR15 hS135.1 ta0) (Or.inl rfl) hS135 ta0 (iokF rfl) rfl (by decide +kernel) ?_
                    intro I142 hS143 e144 f145
                    have c146 : I142 a0 8 = v14 := (f145 _ _ (fun q => absurd q.2 (by decide))).trans c138
                    have c147 : I142 a0 10 = v14 := (f145 _ _ (fun q => absurd q.2 (by decide))).trans c139
                    have c148 : I142 a0 9 = v132 := (f145 _ _ (fun q => absurd q.2 (by decide))).trans e136
                    have r149 : v27 = m_by I142 R0 a0 v14 := r141.trans (m_by_kp d40 (f145 _ _ (fun q => absurd q.2 (by decide))) (fun i => f145 _ _ (fun q => by have z := ta39; rw [q.1, ta0] at z; exact absurd z (by decide))))
                    refine tr_aload_n dX12_goesOn_271 hl10 ?_
                    refine tr_dup dX12_goesOn_272 rfl ?_
                    refine q_getI dX12_goesOn_273 fl12_102 (kR15 hS143.1 ta0) c146 ?_
                    refine q_iconst dX12_goesOn_276 (by decide) ?_
                    intro v150 h151
                    refine q_iaddE dX12_goesOn_277 (by intros; omega) ?_
                    intro v152 h153
                    refine q_putI dX12_goesOn_278 fl12_102 (kR15 hS143.1 ta0) (Or.inl rfl) hS143 ta0 (by show (0 : Int) ≤ v152.toInt ∧ v152.toInt ≤ (900 : Int); omega) rfl (by decide +kernel) ?_
                    intro I154 hS155 e156 f157
                    have c158 : I154 a0 10 = v14 := (f157 _ _ (fun q => absurd q.2 (by decide))).trans c147
                    have c159 : I154 a0 9 = v132 := (f157 _ _ (fun q => absurd q.2 (by decide))).trans c148
                    have c160 : I154 a0 11 = v27 := (f157 _ _ (fun q => absurd q.2 (by decide))).trans e144
                    have r161 : v27 = m_by I154 R0 a0 v14 := r149.trans (m_by_kp d40 (f157 _ _ (fun q => absurd q.2 (by decide))) (fun i => f157 _ _ (fun q => by have z := ta39; rw [q.1, ta0] at z; exact absurd z (by decide))))
                    exact tr_vret hZ dX12_goesOn_281 rfl (by decide) (by decide) ⟨rfl, rfl, rfl, rfl, rfl, hS155, (by (try rw [c2]); (try rw [c159]); (try rw [e156]); (try rw [c5]); (try omega)), (by (try rw [c2]); (try rw [c159]); (try omega)), (by (try rw [e156]); (try rw [c5]); (try omega)), (by (try rw [c2]); (try rw [c159]); (try rw [e156]); (try rw [c5]); (try omega)), trivial⟩
              · skip
                refine tr_aload_n dX12_goesOn_173 hl10 ?_
                refine q_iconst dX12_goesOn_174 (by decide) ?_
                intro v162 h163
                refine q_putI dX12_goesOn_175 fl12_125 (kR15 hS54.1 ta0) (Or.inl rfl) hS54 ta0 (iokF rfl) rfl (by decide +kernel) ?_
                intro I164 hS165 e166 f167
                have c168 : I164 a0 8 = v14 := (f167 _ _ (fun q => absurd q.2 (by decide))).trans c57
                have c169 : I164 a0 10 = v14 := (f167 _ _ (fun q => absurd q.2 (by decide))).trans c58
                have c170 : I164 a0 9 = v42 := (f167 _ _ (fun q => absurd q.2 (by decide))).trans c59
                have c171 : I164 a0 11 = v51 := (f167 _ _ (fun q => absurd q.2 (by decide))).trans e55
                have r172 : v27 = m_by I164 R0 a0 v14 := r60.trans (m_by_kp d40 (f167 _ _ (fun q => absurd q.2 (by decide))) (fun i => f167 _ _ (fun q => by have z := ta39; rw [q.1, ta0] at z; exact absurd z (by decide))))
                refine tr_aload_n dX12_goesOn_178 hl10 ?_
                refine tr_aload_n dX12_goesOn_179 hl10 ?_
                refine q_getI dX12_goesOn_180 fl12_102 (kR15 hS165.1 ta0) c168 ?_
                refine q_callVi hE (M' := mX12_byteAt) (as := [_]) dX12_goesOn_183 lk12_105 inX12_byteAt seX12_byteAt myX12_byteAt (by decide) ⟨by decide, by decide⟩ rfl (kR15 hS165.1 ta0) (Nat.le_of_ble_eq_true rfl) rfl rfl (by decide) (by decide) (k_X12_byteAt hS165.1 ta0 (by omega)) ?_
                rintro v177 cn' K' N' I173 R174 L175 ⟨rfl, rfl, rfl, rfl, rfl, rfl, p178, r179, -⟩
                obtain rfl : v27 = v177 := r172.trans r179.symm
                have p180 := p178
                rw [((hS165.cell ta0 (by decide +kernel)).trans c21)] at p180
                refine q_callSi hE (M' := mX12_isDigit) (as := [_]) dX12_goesOn_186 lk12_122 inX12_isDigit myX12_isDigit ⟨by decide, by decide⟩ rfl (Nat.le_of_ble_eq_true rfl) rfl rfl (by decide) (by decide) (k_X12_isDigit hS165.1 ) ?_
                rintro v185 cn' K' N' I181 R182 L183 ⟨rfl, rfl, rfl, rfl, rfl, rfl, h186, p187, p188, -⟩
                have p189 := p187
                have p190 := p188
                refine q_if_eq 236 dX12_goesOn_189 (by decide) (fun h191 => ?_) (fun h191 => ?_)
                · skip
                  exfalso; omega
                · skip
                  refine tr_iload_n dX12_goesOn_192 rfl ?_
                  refine q_iconst dX12_goesOn_193 (by decide) ?_
                  intro v192 h193
                  refine q_icmp_ge 220 dX12_goesOn_194 (by decide) (fun h194 => ?_) (fun h194 => ?_)
                  · skip
                    exfalso; omega
                  · skip
                    refine tr_aload_n dX12_goesOn_197 hl10 ?_
                    refine q_bipush dX12_goesOn_198 (by decide +kernel) ?_
                    intro v195 h196
                    refine tr_aload_n dX12_goesOn_200 hl10 ?_
                    refine q_getI dX12_goesOn_201 fl12_125 (kR15 hS165.1 ta0) e166 ?_
                    refine q_imulE (c := 10) dX12_goesOn_204 (by omega) (by omega) ?_
                    intro v197 h198
                    refine tr_aload_n dX12_goesOn_205 hl10 ?_
                    refine tr_aload_n dX12_goesOn_206 hl10 ?_
                    refine q_getI dX12_goesOn_207 fl12_102 (kR15 hS165.1 ta0) c168 ?_
                    refine q_callVi hE (M' := mX12_byteAt) (as := [_]) dX12_goesOn_210 lk12_105 inX12_byteAt seX12_byteAt myX12_byteAt (by decide) ⟨by decide, by decide⟩ rfl (kR15 hS165.1 ta0) (Nat.le_of_ble_eq_true rfl) rfl rfl (by decide) (by decide) (k_X12_byteAt hS165.1 ta0 (by omega)) ?_
                    rintro v203 cn' K' N' I199 R200 L201 ⟨rfl, rfl, rfl, rfl, rfl, rfl, p204, r205, -⟩
                    obtain rfl : v27 = v203 := r172.trans r205.symm
                    have p206 := p204
                    rw [((hS165.cell ta0 (by decide +kernel)).trans c21)] at p206
                    refine q_iaddE dX12_goesOn_213 (by intros; omega) ?_
                    intro v207 h208
                    refine q_bipush dX12_goesOn_214 (by decide +kernel) ?_
                    intro v209 h210
                    refine q_isubE dX12_goesOn_216 (by intros; omega) ?_
                    intro v211 h212
                    refine q_putI dX12_goesOn_217 fl12_125 (kR15 hS165.1 ta0) (Or.inl rfl) hS165 ta0 (iokF rfl) rfl (by decide +kernel) ?_
                    intro I213 hS214 e215 f216
                    have c217 : I213 a0 8 = v14 := (f216 _ _ (fun q => absurd q.2 (by decide))).trans c168
                    have c218 : I213 a0 10 = v14 := (f216 _ _ (fun q => absurd q.2 (by decide))).trans c169
                    have c219 : I213 a0 9 = v42 := (f216 _ _ (fun q => absurd q.2 (by decide))).trans c170
                    have c220 : I213 a0 11 = v51 := (f216 _ _ (fun q => absurd q.2 (by decide))).trans c171
                    have r221 : v27 = m_by I213 R0 a0 v14 := r172.trans (m_by_kp d40 (f216 _ _ (fun q => absurd q.2 (by decide))) (fun i => f216 _ _ (fun q => by have z := ta39; rw [q.1, ta0] at z; exact absurd z (by decide))))
                    refine q_iincE dX12_goesOn_220 rfl (by decide) (by decide) (by intros; omega) ?_
                    intro v222 h223
                    refine tr_aload_n dX12_goesOn_223 hl10 ?_
                    refine tr_dup dX12_goesOn_224 rfl ?_
                    refine q_getI dX12_goesOn_225 fl12_102 (kR15 hS214.1 ta0) c217 ?_
                    refine q_iconst dX12_goesOn_228 (by decide) ?_
                    intro v224 h225
                    refine q_iaddE dX12_goesOn_229 (by intros; omega) ?_
                    intro v226 h227
                    refine q_putI dX12_goesOn_230 fl12_102 (kR15 hS214.1 ta0) (Or.inl rfl) hS214 ta0 (by show (0 : Int) ≤ v226.toInt ∧ v226.toInt ≤ (900 : Int); omega) rfl (by decide +kernel) ?_
                    intro I228 hS229 e230 f231
                    have c232 : I228 a0 10 = v14 := (f231 _ _ (fun q => absurd q.2 (by decide))).trans c218
                    have c233 : I228 a0 9 = v42 := (f231 _ _ (fun q => absurd q.2 (by decide))).trans c219
                    have c234 : I228 a0 11 = v51 := (f231 _ _ (fun q => absurd q.2 (by decide))).trans c220
                    have c235 : I228 a0 12 = v211 := (f231 _ _ (fun q => absurd q.2 (by decide))).trans e215
                    have r236 : v27 = m_by I228 R0 a0 v14 := r221.trans (m_by_kp d40 (f231 _ _ (fun q => absurd q.2 (by decide))) (fun i => f231 _ _ (fun q => by have z := ta39; rw [q.1, ta0] at z; exact absurd z (by decide))))
                    refine tr_goto 178 dX12_goesOn_233 (by decide) ?_
                    have lp250 : ∀ (fu : Nat) (ls : Nat → Option Value) (v237 : Int32) (I241 : cz_I) (L242 : cz_L) (v244 : Int32) (v246 : Int32), ls 0 = some (.ref a0) → ls 1 = some (.int v27) → ls 2 = some (.int v237) → St T cn K N d wi_X12_goesOn wr_X12_goesOn I0 R0 I241 R0 → I241 a0 8 = v244 → I241 a0 9 = v246 → v246.toInt = 0 → v244.toInt ≥ v4.toInt + 1 → (-v244.toInt + 900).toNat < fu → Tr X mX12_goesOn 178 ls [] cn K N I241 R0 L242 0 0 := by
                      intro fu
                      induction fu with
                      | zero => intros; rename_i hz; exact absurd hz (Nat.not_lt_zero _)
                      | succ fu ih250 =>
                        intro ls v237 I241 L242 v244 v246 hl238 hl239 hl240 hS243 c245 c247 g248 g249 hm250
                        have b252 := iv15_8 hS243.1 ta0 c245
                        have b253 := iv15_9 hS243.1 ta0 c247
                        refine tr_aload_n dX12_goesOn_178 hl238 ?_
                        refine tr_aload_n dX12_goesOn_179 hl238 ?_
                        refine q_getI dX12_goesOn_180 fl12_102 (kR15 hS243.1 ta0) c245 ?_
                        refine q_callVi hE (M' := mX12_byteAt) (as := [_]) dX12_goesOn_183 lk12_105 inX12_byteAt seX12_byteAt myX12_byteAt (by decide) ⟨by decide, by decide⟩ rfl (kR15 hS243.1 ta0) (Nat.le_of_ble_eq_true rfl) rfl rfl (by decide) (by decide) (k_X12_byteAt hS243.1 ta0 (by omega)) ?_
                        rintro v258 cn' K' N' I254 R255 L256 ⟨rfl, rfl, rfl, rfl, rfl, rfl, p259, r260, -⟩
                        have p261 := p259
                        rw [((hS243.cell ta0 (by decide +kernel)).trans c21)] at p261
                        refine q_callSi hE (M' := mX12_isDigit) (as := [_]) dX12_goesOn_186 lk12_122 inX12_isDigit myX12_isDigit ⟨by decide, by decide⟩ rfl (Nat.le_of_ble_eq_true rfl) rfl rfl (by decide) (by decide) (k_X12_isDigit hS243.1 ) ?_
                        rintro v266 cn' K' N' I262 R263 L264 ⟨rfl, rfl, rfl, rfl, rfl, rfl, h267, p268, p269, -⟩
                        have p270 := p268
                        have p271 := p269
                        refine q_if_eq 236 dX12_goesOn_189 (by decide) (fun h272 => ?_) (fun h272 => ?_)
                        · skip
                          refine tr_iload_n dX12_goesOn_236 hl240 ?_
                          refine q_iconst dX12_goesOn_237 (by decide) ?_
                          intro v273 h274
                          refine q_icmp_gt 281 dX12_goesOn_238 (by decide) (fun h275 => ?_) (fun h275 => ?_)
                          · skip
                            exact tr_vret hZ dX12_goesOn_281 rfl (by decide) (by decide) ⟨rfl, rfl, rfl, rfl, rfl, hS243, (by (try rw [c2]); (try rw [c247]); (try rw [c245]); (try rw [c5]); (try omega)), (by (try rw [c2]); (try rw [c247]); (try omega)), (by (try rw [c245]); (try rw [c5]); (try omega)), (by (try rw [c2]); (try rw [c247]); (try rw [c245]); (try rw [c5]); (try omega)), trivial⟩
                          · skip
                            refine tr_aload_n dX12_goesOn_241 hl238 ?_
                            refine q_iconst dX12_goesOn_242 (by decide) ?_
                            intro v276 h277
                            refine q_putI dX12_goesOn_243 fl12_99 (kR15 hS243.1 ta0) (Or.inl rfl) hS243 ta0 (by show (0 : Int) ≤ v276.toInt ∧ v276.toInt ≤ (5 : Int); omega) rfl (by decide +kernel) ?_
                            intro I278 hS279 e280 f281
                            have c282 : I278 a0 8 = v244 := (f281 _ _ (fun q => absurd q.2 (by decide))).trans c245
                            have r283 : v258 = m_by I278 R0 a0 v244 := r260.trans (m_by_kp d40 (f281 _ _ (fun q => absurd q.2 (by decide))) (fun i => f281 _ _ (fun q => by have z := ta39; rw [q.1, ta0] at z; exact absurd z (by decide))))
                            refine tr_goto 281 dX12_goesOn_246 (by decide) ?_
                            exact tr_vret hZ dX12_goesOn_281 rfl (by decide) (by decide) ⟨rfl, rfl, rfl, rfl, rfl, hS279, (by (try rw [c2]); (try rw [e280]); (try rw [c282]); (try rw [c5]); (try omega)), (by (try rw [c2]); (try rw [e280]); (try omega)), (by (try rw [c282]); (try rw [c5]); (try omega)), (by (try rw [c2]); (try rw [e280]); (try rw [c282]); (try rw [c5]); (try omega)), trivial⟩
                        · skip
                          refine tr_iload_n dX12_goesOn_192 hl240 ?_
                          refine q_iconst dX12_goesOn_193 (by decide) ?_
                          intro v284 h285
                          refine q_icmp_ge 220 dX12_goesOn_194 (by decide) (fun h286 => ?_) (fun h286 => ?_)
                          · skip
                            refine q_iinc dX12_goesOn_220 hl240 (by decide) ?_
                            intro v287
                            refine tr_aload_n dX12_goesOn_223 hl238 ?_
                            refine tr_dup dX12_goesOn_224 rfl ?_
                            refine q_getI dX12_goesOn_225 fl12_102 (kR15 hS243.1 ta0) c245 ?_
                            refine q_iconst dX12_goesOn_228 (by decide) ?_
                            intro v288 h289
                            refine q_iaddE dX12_goesOn_229 (by intros; omega) ?_
                            intro v290 h291
                            refine q_putI dX12_goesOn_230 fl12_102 (kR15 hS243.1 ta0) (Or.inl rfl) hS243 ta0 (by show (0 : Int) ≤ v290.toInt ∧ v290.toInt ≤ (900 : Int); omega) rfl (by decide +kernel) ?_
                            intro I292 hS293 e294 f295
                            have c296 : I292 a0 9 = v246 := (f295 _ _ (fun q => absurd q.2 (by decide))).trans c247
                            have r297 : v258 = m_by I292 R0 a0 v244 := r260.trans (m_by_kp d40 (f295 _ _ (fun q => absurd q.2 (by decide))) (fun i => f295 _ _ (fun q => by have z := ta39; rw [q.1, ta0] at z; exact absurd z (by decide))))
                            refine tr_goto 178 dX12_goesOn_233 (by decide) ?_
                            exact ih250 _ v287 I292 L242 v290 v246 hl238 hl239 rfl hS293 e294 c296 (by omega) (by omega) (by omega)
                          · skip
                            refine tr_aload_n dX12_goesOn_197 hl238 ?_
                            refine q_bipush dX12_goesOn_198 (by decide +kernel) ?_
                            intro v298 h299
                            refine tr_aload_n dX12_goesOn_200 hl238 ?_
                            obtain ⟨v300, c301⟩ : ∃ v, I241 a0 12 = v := ⟨_, rfl⟩
                            refine q_getI dX12_goesOn_201 fl12_125 (kR15 hS243.1 ta0) c301 ?_
                            refine q_imul dX12_goesOn_204 ?_
                            intro v302
                            refine tr_aload_n dX12_goesOn_205 hl238 ?_
                            refine tr_aload_n dX12_goesOn_206 hl238 ?_
                            refine q_getI dX12_goesOn_207 fl12_102 (kR15 hS243.1 ta0) c245 ?_
                            refine q_callVi hE (M' := mX12_byteAt) (as := [_]) dX12_goesOn_210 lk12_105 inX12_byteAt seX12_byteAt myX12_byteAt (by decide) ⟨by decide, by decide⟩ rfl (kR15 hS243.1 ta0) (Nat.le_of_ble_eq_true rfl) rfl rfl (by decide) (by decide) (k_X12_byteAt hS243.1 ta0 (by omega)) ?_
                            rintro v307 cn' K' N' I303 R304 L305 ⟨rfl, rfl, rfl, rfl, rfl, rfl, p308, r309, -⟩
                            obtain rfl : v258 = v307 := r260.trans r309.symm
                            have p310 := p308
                            rw [((hS243.cell ta0 (by decide +kernel)).trans c21)] at p310
                            refine q_iadd dX12_goesOn_213 ?_
                            intro v311
                            refine q_bipush dX12_goesOn_214 (by decide +kernel) ?_
                            intro v312 h313
                            refine q_isub dX12_goesOn_216 ?_
                            intro v314
                            refine q_putI dX12_goesOn_217 fl12_125 (kR15 hS243.1 ta0) (Or.inl rfl) hS243 ta0 (iokF rfl) rfl (by decide +kernel) ?_
                            intro I315 hS316 e317 f318
                            have c319 : I315 a0 8 = v244 := (f318 _ _ (fun q => absurd q.2 (by decide))).trans c245
                            have c320 : I315 a0 9 = v246 := (f318 _ _ (fun q => absurd q.2 (by decide))).trans c247
                            have r321 : v258 = m_by I315 R0 a0 v244 := r260.trans (m_by_kp d40 (f318 _ _ (fun q => absurd q.2 (by decide))) (fun i => f318 _ _ (fun q => by have z := ta39; rw [q.1, ta0] at z; exact absurd z (by decide))))
                            refine q_iincE dX12_goesOn_220 hl240 (by decide) (by decide) (by intros; omega) ?_
                            intro v322 h323
                            refine tr_aload_n dX12_goesOn_223 hl238 ?_
                            refine tr_dup dX12_goesOn_224 rfl ?_
                            refine q_getI dX12_goesOn_225 fl12_102 (kR15 hS316.1 ta0) c319 ?_
                            refine q_iconst dX12_goesOn_228 (by decide) ?_
                            intro v324 h325
                            refine q_iaddE dX12_goesOn_229 (by intros; omega) ?_
                            intro v326 h327
                            refine q_putI dX12_goesOn_230 fl12_102 (kR15 hS316.1 ta0) (Or.inl rfl) hS316 ta0 (by show (0 : Int) ≤ v326.toInt ∧ v326.toInt ≤ (900 : Int); omega) rfl (by decide +kernel) ?_
                            intro I328 hS329 e330 f331
                            have c332 : I328 a0 9 = v246 := (f331 _ _ (fun q => absurd q.2 (by decide))).trans c320
                            have c333 : I328 a0 12 = v314 := (f331 _ _ (fun q => absurd q.2 (by decide))).trans e317
                            have r334 : v258 = m_by I328 R0 a0 v244 := r321.trans (m_by_kp d40 (f331 _ _ (fun q => absurd q.2 (by decide))) (fun i => f331 _ _ (fun q => by have z := ta39; rw [q.1, ta0] at z; exact absurd z (by decide))))
                            refine tr_goto 178 dX12_goesOn_233 (by decide) ?_
                            exact ih250 _ v322 I328 L242 v326 v246 hl238 hl239 rfl hS329 e330 c332 (by omega) (by omega) (by omega)
                    exact lp250 _ _ v222 I228 L12 v226 v42 hl10 rfl rfl hS229 e230 c233 (by omega) (by omega) (Nat.lt_succ_self _)
            · skip
              refine tr_aload_n dX12_goesOn_84 hl10 ?_
              refine q_lconst dX12_goesOn_85 ?_
              intro y335
              refine q_putL dX12_goesOn_86 fl12_118 (kR15 hS54.1 ta0) (Or.inl rfl) ?_
              intro L336
              refine tr_aload_n dX12_goesOn_89 hl10 ?_
              refine tr_aload_n dX12_goesOn_90 hl10 ?_
              refine q_getI dX12_goesOn_91 fl12_102 (kR15 hS54.1 ta0) c57 ?_
              refine q_callVi hE (M' := mX12_byteAt) (as := [_]) dX12_goesOn_94 lk12_105 inX12_byteAt seX12_byteAt myX12_byteAt (by decide) ⟨by decide, by decide⟩ rfl (kR15 hS54.1 ta0) (Nat.le_of_ble_eq_true rfl) rfl rfl (by decide) (by decide) (k_X12_byteAt hS54.1 ta0 (by omega)) ?_
              rintro v341 cn' K' N' I337 R338 L339 ⟨rfl, rfl, rfl, rfl, rfl, rfl, p342, r343, -⟩
              obtain rfl : v27 = v341 := r60.trans r343.symm
              have p344 := p342
              rw [((hS54.cell ta0 (by decide +kernel)).trans c21)] at p344
              refine q_callSi hE (M' := mX12_isLetter) (as := [_]) dX12_goesOn_97 lk12_114 inX12_isLetter myX12_isLetter ⟨by decide, by decide⟩ rfl (Nat.le_of_ble_eq_true rfl) rfl rfl (by decide) (by decide) (k_X12_isLetter hS54.1 ) ?_
              rintro v349 cn' K' N' I345 R346 L347 ⟨rfl, rfl, rfl, rfl, rfl, rfl, h350, p351, p352, -⟩
              have p353 := p351
              have p354 := p352
              refine q_if_eq 152 dX12_goesOn_100 (by decide) (fun h355 => ?_) (fun h355 => ?_)
              · skip
                exfalso; omega
              · skip
                refine tr_iload_n dX12_goesOn_103 rfl ?_
                refine q_bipush dX12_goesOn_104 (by decide +kernel) ?_
                intro v356 h357
                refine q_icmp_ge 136 dX12_goesOn_106 (by decide) (fun h358 => ?_) (fun h358 => ?_)
                · skip
                  exfalso; omega
                · skip
                  refine tr_aload_n dX12_goesOn_109 hl10 ?_
                  refine q_ldc2 dX12_goesOn_110 ld12_93 ?_
                  intro y359
                  refine tr_aload_n dX12_goesOn_113 hl10 ?_
                  refine q_getL dX12_goesOn_114 fl12_118 (kR15 hS54.1 ta0) ?_
                  intro y360
                  refine q_lmul dX12_goesOn_117 ?_
                  intro y361
                  refine tr_aload_n dX12_goesOn_118 hl10 ?_
                  refine tr_aload_n dX12_goesOn_119 hl10 ?_
                  refine q_getI dX12_goesOn_120 fl12_102 (kR15 hS54.1 ta0) c57 ?_
                  refine q_callVi hE (M' := mX12_byteAt) (as := [_]) dX12_goesOn_123 lk12_105 inX12_byteAt seX12_byteAt myX12_byteAt (by decide) ⟨by decide, by decide⟩ rfl (kR15 hS54.1 ta0) (Nat.le_of_ble_eq_true rfl) rfl rfl (by decide) (by decide) (k_X12_byteAt hS54.1 ta0 (by omega)) ?_
                  rintro v366 cn' K' N' I362 R363 L364 ⟨rfl, rfl, rfl, rfl, rfl, rfl, p367, r368, -⟩
                  obtain rfl : v27 = v366 := r60.trans r368.symm
                  have p369 := p367
                  rw [((hS54.cell ta0 (by decide +kernel)).trans c21)] at p369
                  refine q_bipush dX12_goesOn_126 (by decide +kernel) ?_
                  intro v370 h371
                  refine q_isubE dX12_goesOn_128 (by intros; omega) ?_
                  intro v372 h373
                  refine q_iconst dX12_goesOn_129 (by decide) ?_
                  intro v374 h375
                  refine q_iaddE dX12_goesOn_130 (by intros; omega) ?_
                  intro v376 h377
                  refine q_i2l dX12_goesOn_131 ?_
                  intro y378
                  refine q_ladd dX12_goesOn_132 ?_
                  intro y379
                  refine q_putL dX12_goesOn_133 fl12_118 (kR15 hS54.1 ta0) (Or.inl rfl) ?_
                  intro L380
                  refine q_iincE dX12_goesOn_136 rfl (by decide) (by decide) (by intros; omega) ?_
                  intro v381 h382
                  refine tr_aload_n dX12_goesOn_139 hl10 ?_
                  refine tr_dup dX12_goesOn_140 rfl ?_
                  refine q_getI dX12_goesOn_141 fl12_102 (kR15 hS54.1 ta0) c57 ?_
                  refine q_iconst dX12_goesOn_144 (by decide) ?_
                  intro v383 h384
                  refine q_iaddE dX12_goesOn_145 (by intros; omega) ?_
                  intro v385 h386
                  refine q_putI dX12_goesOn_146 fl12_102 (kR15 hS54.1 ta0) (Or.inl rfl) hS54 ta0 (by show (0 : Int) ≤ v385.toInt ∧ v385.toInt ≤ (900 : Int); omega) rfl (by decide +kernel) ?_
                  intro I387 hS388 e389 f390
                  have c391 : I387 a0 10 = v14 := (f390 _ _ (fun q => absurd q.2 (by decide))).trans c58
                  have c392 : I387 a0 9 = v42 := (f390 _ _ (fun q => absurd q.2 (by decide))).trans c59
                  have c393 : I387 a0 11 = v51 := (f390 _ _ (fun q => absurd q.2 (by decide))).trans e55
                  have r394 : v27 = m_by I387 R0 a0 v14 := r60.trans (m_by_kp d40 (f390 _ _ (fun q => absurd q.2 (by decide))) (fun i => f390 _ _ (fun q => by have z := ta39; rw [q.1, ta0] at z; exact absurd z (by decide))))
                  refine tr_goto 89 dX12_goesOn_149 (by decide) ?_
                  have lp408 : ∀ (fu : Nat) (ls : Nat → Option Value) (v395 : Int32) (I399 : cz_I) (L400 : cz_L) (v402 : Int32) (v404 : Int32), ls 0 = some (.ref a0) → ls 1 = some (.int v27) → ls 2 = some (.int v395) → St T cn K N d wi_X12_goesOn wr_X12_goesOn I0 R0 I399 R0 → I399 a0 8 = v402 → I399 a0 9 = v404 → v404.toInt = 0 → v402.toInt ≥ v4.toInt + 1 → (-v402.toInt + 900).toNat < fu → Tr X mX12_goesOn 89 ls [] cn K N I399 R0 L400 0 0 := by
                    intro fu
                    induction fu with
                    | zero => intros; rename_i hz; exact absurd hz (Nat.not_lt_zero _)
                    | succ fu ih408 =>
                      intro ls v395 I399 L400 v402 v404 hl396 hl397 hl398 hS401 c403 c405 g406 g407 hm408
                      have b410 := iv15_8 hS401.1 ta0 c403
                      have b411 := iv15_9 hS401.1 ta0 c405
                      refine tr_aload_n dX12_goesOn_89 hl396 ?_
                      refine tr_aload_n dX12_goesOn_90 hl396 ?_
                      refine q_getI dX12_goesOn_91 fl12_102 (kR15 hS401.1 ta0) c403 ?_
                      refine q_callVi hE (M' := mX12_byteAt) (as := [_]) dX12_goesOn_94 lk12_105 inX12_byteAt seX12_byteAt myX12_byteAt (by decide) ⟨by decide, by decide⟩ rfl (kR15 hS401.1 ta0) (Nat.le_of_ble_eq_true rfl) rfl rfl (by decide) (by decide) (k_X12_byteAt hS401.1 ta0 (by omega)) ?_
                      rintro v416 cn' K' N' I412 R413 L414 ⟨rfl, rfl, rfl, rfl, rfl, rfl, p417, r418, -⟩
                      have p419 := p417
                      rw [((hS401.cell ta0 (by decide +kernel)).trans c21)] at p419
                      refine q_callSi hE (M' := mX12_isLetter) (as := [_]) dX12_goesOn_97 lk12_114 inX12_isLetter myX12_isLetter ⟨by decide, by decide⟩ rfl (Nat.le_of_ble_eq_true rfl) rfl rfl (by decide) (by decide) (k_X12_isLetter hS401.1 ) ?_
                      rintro v424 cn' K' N' I420 R421 L422 ⟨rfl, rfl, rfl, rfl, rfl, rfl, h425, p426, p427, -⟩
                      have p428 := p426
                      have p429 := p427
                      refine q_if_eq 152 dX12_goesOn_100 (by decide) (fun h430 => ?_) (fun h430 => ?_)
                      · skip
                        refine tr_iload_n dX12_goesOn_152 hl398 ?_
                        refine q_bipush dX12_goesOn_153 (by decide +kernel) ?_
                        intro v431 h432
                        refine q_icmp_gt 281 dX12_goesOn_155 (by decide) (fun h433 => ?_) (fun h433 => ?_)
                        · skip
                          exact tr_vret hZ dX12_goesOn_281 rfl (by decide) (by decide) ⟨rfl, rfl, rfl, rfl, rfl, hS401, (by (try rw [c2]); (try rw [c405]); (try rw [c403]); (try rw [c5]); (try omega)), (by (try rw [c2]); (try rw [c405]); (try omega)), (by (try rw [c403]); (try rw [c5]); (try omega)), (by (try rw [c2]); (try rw [c405]); (try rw [c403]); (try rw [c5]); (try omega)), trivial⟩
                        · skip
                          refine tr_aload_n dX12_goesOn_158 hl396 ?_
                          refine q_iconst dX12_goesOn_159 (by decide) ?_
                          intro v434 h435
                          refine q_putI dX12_goesOn_160 fl12_99 (kR15 hS401.1 ta0) (Or.inl rfl) hS401 ta0 (by show (0 : Int) ≤ v434.toInt ∧ v434.toInt ≤ (5 : Int); omega) rfl (by decide +kernel) ?_
                          intro I436 hS437 e438 f439
                          have c440 : I436 a0 8 = v402 := (f439 _ _ (fun q => absurd q.2 (by decide))).trans c403
                          have r441 : v416 = m_by I436 R0 a0 v402 := r418.trans (m_by_kp d40 (f439 _ _ (fun q => absurd q.2 (by decide))) (fun i => f439 _ _ (fun q => by have z := ta39; rw [q.1, ta0] at z; exact absurd z (by decide))))
                          refine tr_goto 281 dX12_goesOn_163 (by decide) ?_
                          exact tr_vret hZ dX12_goesOn_281 rfl (by decide) (by decide) ⟨rfl, rfl, rfl, rfl, rfl, hS437, (by (try rw [c2]); (try rw [e438]); (try rw [c440]); (try rw [c5]); (try omega)), (by (try rw [c2]); (try rw [e438]); (try omega)), (by (try rw [c440]); (try rw [c5]); (try omega)), (by (try rw [c2]); (try rw [e438]); (try rw [c440]); (try rw [c5]); (try omega)), trivial⟩
                      · skip
                        refine tr_iload_n dX12_goesOn_103 hl398 ?_
                        refine q_bipush dX12_goesOn_104 (by decide +kernel) ?_
                        intro v442 h443
                        refine q_icmp_ge 136 dX12_goesOn_106 (by decide) (fun h444 => ?_) (fun h444 => ?_)
                        · skip
                          refine q_iinc dX12_goesOn_136 hl398 (by decide) ?_
                          intro v445
                          refine tr_aload_n dX12_goesOn_139 hl396 ?_
                          refine tr_dup dX12_goesOn_140 rfl ?_
                          refine q_getI dX12_goesOn_141 fl12_102 (kR15 hS401.1 ta0) c403 ?_
                          refine q_iconst dX12_goesOn_144 (by decide) ?_
                          intro v446 h447
                          refine q_iaddE dX12_goesOn_145 (by intros; omega) ?_
                          intro v448 h449
                          refine q_putI dX12_goesOn_146 fl12_102 (kR15 hS401.1 ta0) (Or.inl rfl) hS401 ta0 (by show (0 : Int) ≤ v448.toInt ∧ v448.toInt ≤ (900 : Int); omega) rfl (by decide +kernel) ?_
                          intro I450 hS451 e452 f453
                          have c454 : I450 a0 9 = v404 := (f453 _ _ (fun q => absurd q.2 (by decide))).trans c405
                          have r455 : v416 = m_by I450 R0 a0 v402 := r418.trans (m_by_kp d40 (f453 _ _ (fun q => absurd q.2 (by decide))) (fun i => f453 _ _ (fun q => by have z := ta39; rw [q.1, ta0] at z; exact absurd z (by decide))))
                          refine tr_goto 89 dX12_goesOn_149 (by decide) ?_
                          exact ih408 _ v445 I450 L400 v448 v404 hl396 hl397 rfl hS451 e452 c454 (by omega) (by omega) (by omega)
                        · skip
                          refine tr_aload_n dX12_goesOn_109 hl396 ?_
                          refine q_ldc2 dX12_goesOn_110 ld12_93 ?_
                          intro y456
                          refine tr_aload_n dX12_goesOn_113 hl396 ?_
                          refine q_getL dX12_goesOn_114 fl12_118 (kR15 hS401.1 ta0) ?_
                          intro y457
                          refine q_lmul dX12_goesOn_117 ?_
                          intro y458
                          refine tr_aload_n dX12_goesOn_118 hl396 ?_
                          refine tr_aload_n dX12_goesOn_119 hl396 ?_
                          refine q_getI dX12_goesOn_120 fl12_102 (kR15 hS401.1 ta0) c403 ?_
                          refine q_callVi hE (M' := mX12_byteAt) (as := [_]) dX12_goesOn_123 lk12_105 inX12_byteAt seX12_byteAt myX12_byteAt (by decide) ⟨by decide, by decide⟩ rfl (kR15 hS401.1 ta0) (Nat.le_of_ble_eq_true rfl) rfl rfl (by decide) (by decide) (k_X12_byteAt hS401.1 ta0 (by omega)) ?_
                          rintro v463 cn' K' N' I459 R460 L461 ⟨rfl, rfl, rfl, rfl, rfl, rfl, p464, r465, -⟩
                          obtain rfl : v416 = v463 := r418.trans r465.symm
                          have p466 := p464
                          rw [((hS401.cell ta0 (by decide +kernel)).trans c21)] at p466
                          refine q_bipush dX12_goesOn_126 (by decide +kernel) ?_
                          intro v467 h468
                          refine q_isubE dX12_goesOn_128 (by intros; omega) ?_
                          intro v469 h470
                          refine q_iconst dX12_goesOn_129 (by decide) ?_
                          intro v471 h472
                          refine q_iaddE dX12_goesOn_130 (by intros; omega) ?_
                          intro v473 h474
                          refine q_i2l dX12_goesOn_131 ?_
                          intro y475
                          refine q_ladd dX12_goesOn_132 ?_
                          intro y476
                          refine q_putL dX12_goesOn_133 fl12_118 (kR15 hS401.1 ta0) (Or.inl rfl) ?_
                          intro L477
                          refine q_iincE dX12_goesOn_136 hl398 (by decide) (by decide) (by intros; omega) ?_
                          intro v478 h479
                          refine tr_aload_n dX12_goesOn_139 hl396 ?_
                          refine tr_dup dX12_goesOn_140 rfl ?_
                          refine q_getI dX12_goesOn_141 fl12_102 (kR15 hS401.1 ta0) c403 ?_
                          refine q_iconst dX12_goesOn_144 (by decide) ?_
                          intro v480 h481
                          refine q_iaddE dX12_goesOn_145 (by intros; omega) ?_
                          intro v482 h483
                          refine q_putI dX12_goesOn_146 fl12_102 (kR15 hS401.1 ta0) (Or.inl rfl) hS401 ta0 (by show (0 : Int) ≤ v482.toInt ∧ v482.toInt ≤ (900 : Int); omega) rfl (by decide +kernel) ?_
                          intro I484 hS485 e486 f487
                          have c488 : I484 a0 9 = v404 := (f487 _ _ (fun q => absurd q.2 (by decide))).trans c405
                          have r489 : v416 = m_by I484 R0 a0 v402 := r418.trans (m_by_kp d40 (f487 _ _ (fun q => absurd q.2 (by decide))) (fun i => f487 _ _ (fun q => by have z := ta39; rw [q.1, ta0] at z; exact absurd z (by decide))))
                          refine tr_goto 89 dX12_goesOn_149 (by decide) ?_
                          exact ih408 _ v478 I484 L477 v482 v404 hl396 hl397 rfl hS485 e486 c488 (by omega) (by omega) (by omega)
                  exact lp408 _ _ v381 I387 L380 v385 v42 hl10 rfl rfl hS388 e389 c392 (by omega) (by omega) (Nat.lt_succ_self _)
          · skip
            refine tr_aload_n dX12_goesOn_69 hl10 ?_
            refine q_iconst dX12_goesOn_70 (by decide) ?_
            intro v490 h491
            refine q_putI dX12_goesOn_71 fl12_99 (kR15 hS54.1 ta0) (Or.inl rfl) hS54 ta0 (by show (0 : Int) ≤ v490.toInt ∧ v490.toInt ≤ (5 : Int); omega) rfl (by decide +kernel) ?_
            intro I492 hS493 e494 f495
            have c496 : I492 a0 8 = v14 := (f495 _ _ (fun q => absurd q.2 (by decide))).trans c57
            have c497 : I492 a0 10 = v14 := (f495 _ _ (fun q => absurd q.2 (by decide))).trans c58
            have c498 : I492 a0 11 = v51 := (f495 _ _ (fun q => absurd q.2 (by decide))).trans e55
            have r499 : v27 = m_by I492 R0 a0 v14 := r60.trans (m_by_kp d40 (f495 _ _ (fun q => absurd q.2 (by decide))) (fun i => f495 _ _ (fun q => by have z := ta39; rw [q.1, ta0] at z; exact absurd z (by decide))))
            refine tr_goto 281 dX12_goesOn_74 (by decide) ?_
            exact tr_vret hZ dX12_goesOn_281 rfl (by decide) (by decide) ⟨rfl, rfl, rfl, rfl, rfl, hS493, (by (try rw [c2]); (try rw [e494]); (try rw [c496]); (try rw [c5]); (try omega)), (by (try rw [c2]); (try rw [e494]); (try omega)), (by (try rw [c496]); (try rw [c5]); (try omega)), (by (try rw [c2]); (try rw [e494]); (try rw [c496]); (try rw [c5]); (try omega)), trivial⟩
        · skip
          refine tr_aload_n dX12_goesOn_22 hl10 ?_
          refine tr_dup dX12_goesOn_23 rfl ?_
          refine q_getI dX12_goesOn_24 fl12_102 (kR15 hS13.1 ta0) c15 ?_
          refine q_iconst dX12_goesOn_27 (by decide) ?_
          intro v500 h501
          refine q_iaddE dX12_goesOn_28 (by intros; omega) ?_
          intro v502 h503
          refine q_putI dX12_goesOn_29 fl12_102 (kR15 hS13.1 ta0) (Or.inl rfl) hS13 ta0 (by show (0 : Int) ≤ v502.toInt ∧ v502.toInt ≤ (900 : Int); omega) rfl (by decide +kernel) ?_
          intro I504 hS505 e506 f507
          obtain ⟨a508, d509, ta508⟩ := rf15_5 hW0 ta0
          have r510 : v27 = m_by I504 R0 a0 v14 := r29.trans (m_by_kp d509 (f507 _ _ (fun q => absurd q.2 (by decide))) (fun i => f507 _ _ (fun q => by have z := ta508; rw [q.1, ta0] at z; exact absurd z (by decide))))
          refine tr_goto 9 dX12_goesOn_32 (by decide) ?_
          exact ih17 _ I504 L12 v502 hl10 hS505 e506 (by omega) (by omega)
    exact lp17 _ _ I0 L0 v4 rfl hS0 c5 (by omega) (Nat.lt_succ_self _)
  · skip
    exact tr_vret hZ dX12_goesOn_8 rfl (by decide) (by decide) ⟨rfl, rfl, rfl, rfl, rfl, hS0, (by (try rw [c2]); (try rw [c5]); (try omega)), (by (try rw [c2]); (try omega)), (by (try rw [c5]); (try omega)), (by (try rw [c2]); (try rw [c5]); (try omega)), trivial⟩
