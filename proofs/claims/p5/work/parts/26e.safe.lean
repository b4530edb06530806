def wi_X12_fits : List Nat := [960, 961, 962, 5247, 5311, 5375, 5439, 5503, 5567, 5631, 5695, 5759, 5823, 5887, 5951, 6015]
def wr_X12_fits : List Nat := []
set_option maxHeartbeats 4000000 in
theorem k_X12_fits {l : Launch} {T : Nat → Nat} {cn : Nat} {K N : Nat → Nat} {I0 : cz_I} {R0 : cz_R} {L0 : cz_L} {d : Int} (hW0 : Wf T cn K N I0 R0 d) {a0 : Nat} (ta0 : T a0 = 15) {x1 : Int32} : ConE l mX12_fits [.ref a0, .int x1] cn K N I0 R0 L0 (ca_i (fun v cn' K' N' I' R' L' => cn = cn' ∧ K = K' ∧ N = N' ∧ R0 = R' ∧ L0 = L' ∧ St T cn K N d wi_X12_fits wr_X12_fits I0 R0 I' R0 ∧ ((I' a0 2).toInt = -1) ∧ True)) := by
  refine ConE.of (by decide +kernel) rfl (Nat.le_of_ble_eq_true rfl) rfl (fun X hX hZ hE => ?_)
  subst hX
  have hS0 : St T cn K N d wi_X12_fits wr_X12_fits I0 R0 I0 R0 := St.rf0 hW0
  rcases rf15_3 hW0 ta0 with d2 | ⟨a1, d2, ta1⟩
  · skip
    refine tr_aload_n dX12_fits_0 rfl ?_
    refine q_iconst dX12_fits_1 (by decide) ?_
    intro v3 h4
    refine q_putI dX12_fits_2 fl12_70 (kR15 hS0.1 ta0) (Or.inl rfl) hS0 ta0 (iokF rfl) rfl (by decide +kernel) ?_
    intro I5 hS6 e7 f8
    refine tr_aload_n dX12_fits_5 rfl ?_
    refine tr_iload_n dX12_fits_6 rfl ?_
    refine q_callVi hE (M' := mX12_isSlice) (as := [_]) dX12_fits_7 lk12_485 inX12_isSlice seX12_isSlice myX12_isSlice (by decide) ⟨by decide, by decide⟩ rfl (kR15 hS6.1 ta0) (Nat.le_of_ble_eq_true rfl) rfl rfl (by decide) (by decide) (k_X12_isSlice hS6.1 ta0) ?_
    rintro v13 cn' K' N' I9 R10 L11 ⟨rfl, rfl, rfl, rfl, rfl, rfl, h14, p15, p16, -⟩
    have p17 := (p16 d2)
    refine q_if_ne 19 dX12_fits_10 (by decide) (fun h18 => ?_) (fun h18 => ?_)
    · skip
      exfalso; omega
    · skip
      refine tr_aload_n dX12_fits_13 rfl ?_
      refine q_iconst dX12_fits_14 (by decide) ?_
      intro v19 h20
      refine q_callVi hE (M' := mX12_refused) (as := [_]) dX12_fits_15 lk12_76 inX12_refused seX12_refused myX12_refused (by decide) ⟨by decide, by decide⟩ rfl (kR15 hS6.1 ta0) (Nat.le_of_ble_eq_true rfl) rfl rfl (by decide) (by decide) (k_X12_refused hS6.1 ta0) ?_
      rintro v25 cn' K' N' I21 R22 L23 ⟨rfl, rfl, rfl, rfl, rfl, g24, p26, -⟩
      have hS27 := hS6.tr g24 (by decide +kernel) (by decide +kernel)
      have c28 : I21 a0 0 = v3 := (g24.cell ta0 (by decide +kernel)).trans e7
      obtain ⟨v29, c30⟩ : ∃ v, I21 a0 2 = v := ⟨_, rfl⟩
      rw [c30] at p26
      exact tr_iret hZ dX12_fits_18 rfl (by decide) (by decide) ⟨v25, rfl, rfl, rfl, rfl, rfl, rfl, hS27, (by (try rw [c30]); (try omega)), trivial⟩
  · skip
    refine tr_aload_n dX12_fits_0 rfl ?_
    refine q_iconst dX12_fits_1 (by decide) ?_
    intro v31 h32
    refine q_putI dX12_fits_2 fl12_70 (kR15 hS0.1 ta0) (Or.inl rfl) hS0 ta0 (iokF rfl) rfl (by decide +kernel) ?_
    intro I33 hS34 e35 f36
    refine tr_aload_n dX12_fits_5 rfl ?_
    refine tr_iload_n dX12_fits_6 rfl ?_
    refine q_callVi hE (M' := mX12_isSlice) (as := [_]) dX12_fits_7 lk12_485 inX12_isSlice seX12_isSlice myX12_isSlice (by decide) ⟨by decide, by decide⟩ rfl (kR15 hS34.1 ta0) (Nat.le_of_ble_eq_true rfl) rfl rfl (by decide) (by decide) (k_X12_isSlice hS34.1 ta0) ?_
    rintro v41 cn' K' N' I37 R38 L39 ⟨rfl, rfl, rfl, rfl, rfl, rfl, h42, p43, p44, -⟩
    refine q_if_ne 19 dX12_fits_10 (by decide) (fun h45 => ?_) (fun h45 => ?_)
    · skip
      refine tr_aload_n dX12_fits_19 rfl ?_
      refine q_callVi hE (M' := mX12_tonight) (as := []) dX12_fits_20 lk12_455 inX12_tonight seX12_tonight myX12_tonight (by decide) ⟨by decide, by decide⟩ rfl (kR15 hS34.1 ta0) (Nat.le_of_ble_eq_true rfl) rfl rfl (by decide) (by decide) (k_X12_tonight hS34.1 ta0 ⟨_, d2⟩) ?_
      rintro v50 cn' K' N' I46 R47 L48 ⟨rfl, rfl, rfl, rfl, rfl, g49, -⟩
      have hS51 := hS34.tr g49 (by decide +kernel) (by decide +kernel)
      have c52 : I46 a0 0 = v31 := (g49.cell ta0 (by decide +kernel)).trans e35
      refine tr_pop dX12_fits_23 rfl ?_
      refine tr_aload_n dX12_fits_24 rfl ?_
      refine tr_aload_n dX12_fits_25 rfl ?_
      refine tr_iload_n dX12_fits_26 rfl ?_
      refine q_callVi hE (M' := mX12_fitsNow) (as := [_]) dX12_fits_27 lk12_488 inX12_fitsNow seX12_fitsNow myX12_fitsNow (by decide) ⟨by decide, by decide⟩ rfl (kR15 hS51.1 ta0) (Nat.le_of_ble_eq_true rfl) rfl rfl (by decide) (by decide) (k_X12_fitsNow hS51.1 ta0 (by omega) ⟨_, d2⟩) ?_
      rintro v57 cn' K' N' I53 R54 L55 ⟨rfl, rfl, rfl, rfl, rfl, rfl, -⟩
      refine q_callVi hE (M' := mX12_good) (as := [_]) dX12_fits_30 lk12_81 inX12_good seX12_good myX12_good (by decide) ⟨by decide, by decide⟩ rfl (kR15 hS51.1 ta0) (Nat.le_of_ble_eq_true rfl) rfl rfl (by decide) (by decide) (k_X12_good hS51.1 ta0) ?_
      rintro v62 cn' K' N' I58 R59 L60 ⟨rfl, rfl, rfl, rfl, rfl, g61, p63, -⟩
      have hS64 := hS51.tr g61 (by decide +kernel) (by decide +kernel)
      have c65 : I58 a0 0 = v31 := (g61.cell ta0 (by decide +kernel)).trans c52
      obtain ⟨v66, c67⟩ : ∃ v, I58 a0 2 = v := ⟨_, rfl⟩
      rw [c67] at p63
      exact tr_iret hZ dX12_fits_33 rfl (by decide) (by decide) ⟨v62, rfl, rfl, rfl, rfl, rfl, rfl, hS64, (by (try rw [c67]); (try omega)), trivial⟩
    · skip
      refine tr_aload_n dX12_fits_13 rfl ?_
      refine q_iconst dX12_fits_14 (by decide) ?_
      intro v68 h69
      refine q_callVi hE (M' := mX12_refused) (as := [_]) dX12_fits_15 lk12_76 inX12_refused seX12_refused myX12_refused (by decide) ⟨by decide, by decide⟩ rfl (kR15 hS34.1 ta0) (Nat.le_of_ble_eq_true rfl) rfl rfl (by decide) (by decide) (k_X12_refused hS34.1 ta0) ?_
      rintro v74 cn' K' N' I70 R71 L72 ⟨rfl, rfl, rfl, rfl, rfl, g73, p75, -⟩
      have hS76 := hS34.tr g73 (by decide +kernel) (by decide +kernel)
      have c77 : I70 a0 0 = v31 := (g73.cell ta0 (by decide +kernel)).trans e35
      obtain ⟨v78, c79⟩ : ∃ v, I70 a0 2 = v := ⟨_, rfl⟩
      rw [c79] at p75
      exact tr_iret hZ dX12_fits_18 rfl (by decide) (by decide) ⟨v74, rfl, rfl, rfl, rfl, rfl, rfl, hS76, (by (try rw [c79]); (try omega)), trivial⟩
def wi_X12_by : List Nat := [960, 961, 962, 5247, 5311, 5375, 5439, 5503, 5567, 5631, 5695, 5759, 5823, 5887, 5951, 6015]
def wr_X12_by : List Nat := []
set_option maxHeartbeats 4000000 in
theorem k_X12_by {l : Launch} {T : Nat → Nat} {cn : Nat} {K N : Nat → Nat} {I0 : cz_I} {R0 : cz_R} {L0 : cz_L} {d : Int} (hW0 : Wf T cn K N I0 R0 d) {a0 : Nat} (ta0 : T a0 = 15) {x1 : Int32} : ConE l mX12_by [.ref a0, .int x1] cn K N I0 R0 L0 (ca_i (fun v cn' K' N' I' R' L' => cn = cn' ∧ K = K' ∧ N = N' ∧ R0 = R' ∧ L0 = L' ∧ St T cn K N d wi_X12_by wr_X12_by I0 R0 I' R0 ∧ ((I' a0 2).toInt = -1) ∧ True)) := by
  refine ConE.of (by decide +kernel) rfl (Nat.le_of_ble_eq_true rfl) rfl (fun X hX hZ hE => ?_)
  subst hX
  have hS0 : St T cn K N d wi_X12_by wr_X12_by I0 R0 I0 R0 := St.rf0 hW0
  rcases rf15_3 hW0 ta0 with d2 | ⟨a1, d2, ta1⟩
  · skip
    refine tr_aload_n dX12_by_0 rfl ?_
    refine q_iconst dX12_by_1 (by decide) ?_
    intro v3 h4
    refine q_putI dX12_by_2 fl12_70 (kR15 hS0.1 ta0) (Or.inl rfl) hS0 ta0 (iokF rfl) rfl (by decide +kernel) ?_
    intro I5 hS6 e7 f8
    refine tr_aload_n dX12_by_5 rfl ?_
    refine tr_iload_n dX12_by_6 rfl ?_
    refine q_callVi hE (M' := mX12_isSlice) (as := [_]) dX12_by_7 lk12_485 inX12_isSlice seX12_isSlice myX12_isSlice (by decide) ⟨by decide, by decide⟩ rfl (kR15 hS6.1 ta0) (Nat.le_of_ble_eq_true rfl) rfl rfl (by decide) (by decide) (k_X12_isSlice hS6.1 ta0) ?_
    rintro v13 cn' K' N' I9 R10 L11 ⟨rfl, rfl, rfl, rfl, rfl, rfl, h14, p15, p16, -⟩
    have p17 := (p16 d2)
    refine q_if_ne 19 dX12_by_10 (by decide) (fun h18 => ?_) (fun h18 => ?_)
    · skip
      exfalso; omega
    · skip
      refine tr_aload_n dX12_by_13 rfl ?_
      refine q_iconst dX12_by_14 (by decide) ?_
      intro v19 h20
      refine q_callVi hE (M' := mX12_refused) (as := [_]) dX12_by_15 lk12_76 inX12_refused seX12_refused myX12_refused (by decide) ⟨by decide, by decide⟩ rfl (kR15 hS6.1 ta0) (Nat.le_of_ble_eq_true rfl) rfl rfl (by decide) (by decide) (k_X12_refused hS6.1 ta0) ?_
      rintro v25 cn' K' N' I21 R22 L23 ⟨rfl, rfl, rfl, rfl, rfl, g24, p26, -⟩
      have hS27 := hS6.tr g24 (by decide +kernel) (by decide +kernel)
      have c28 : I21 a0 0 = v3 := (g24.cell ta0 (by decide +kernel)).trans e7
      obtain ⟨v29, c30⟩ : ∃ v, I21 a0 2 = v := ⟨_, rfl⟩
      rw [c30] at p26
      exact tr_iret hZ dX12_by_18 rfl (by decide) (by decide) ⟨v25, rfl, rfl, rfl, rfl, rfl, rfl, hS27, (by (try rw [c30]); (try omega)), trivial⟩
  · skip
    refine tr_aload_n dX12_by_0 rfl ?_
    refine q_iconst dX12_by_1 (by decide) ?_
    intro v31 h32
    refine q_putI dX12_by_2 fl12_70 (kR15 hS0.1 ta0) (Or.inl rfl) hS0 ta0 (iokF rfl) rfl (by decide +kernel) ?_
    intro I33 hS34 e35 f36
    refine tr_aload_n dX12_by_5 rfl ?_
    refine tr_iload_n dX12_by_6 rfl ?_
    refine q_callVi hE (M' := mX12_isSlice) (as := [_]) dX12_by_7 lk12_485 inX12_isSlice seX12_isSlice myX12_isSlice (by decide) ⟨by decide, by decide⟩ rfl (kR15 hS34.1 ta0) (Nat.le_of_ble_eq_true rfl) rfl rfl (by decide) (by decide) (k_X12_isSlice hS34.1 ta0) ?_
    rintro v41 cn' K' N' I37 R38 L39 ⟨rfl, rfl, rfl, rfl, rfl, rfl, h42, p43, p44, -⟩
    refine q_if_ne 19 dX12_by_10 (by decide) (fun h45 => ?_) (fun h45 => ?_)
    · skip
      refine tr_aload_n dX12_by_19 rfl ?_
      refine q_iconst dX12_by_20 (by decide) ?_
      intro v46 h47
      refine q_callVv hE (M' := mX12_laysLight) (as := [_]) dX12_by_21 lk12_434 inX12_laysLight seX12_laysLight myX12_laysLight (by decide) ⟨by decide, by decide⟩ rfl (kR15 hS34.1 ta0) (Nat.le_of_ble_eq_true rfl) rfl rfl (by decide) (by decide) (k_X12_laysLight hS34.1 ta0 ⟨_, d2⟩) ?_
      rintro cn' K' N' I48 R49 L50 ⟨rfl, rfl, rfl, rfl, rfl, g51, -⟩
      have hS53 := hS34.tr g51 (by decide +kernel) (by decide +kernel)
      have c54 : I48 a0 0 = v31 := (g51.cell ta0 (by decide +kernel)).trans e35
      refine q_bipush dX12_by_24 (by decide +kernel) ?_
      intro v55 h56
      refine tr_istore_n dX12_by_26 (by decide) (by decide) ?_
      refine q_iconst dX12_by_27 (by decide) ?_
      intro v57 h58
      refine tr_istore_n dX12_by_28 (by decide) (by decide) ?_
      have lp68 : ∀ (fu : Nat) (ls : Nat → Option Value) (v59 : Int32) (v60 : Int32) (I65 : cz_I), ls 0 = some (.ref a0) → ls 1 = some (.int x1) → ls 2 = some (.int v59) → ls 3 = some (.int v60) → St T cn K N d wi_X12_by wr_X12_by I0 R0 I65 R0 → 0 ≤ v60.toInt → (-v60.toInt + 2147483647).toNat < fu → Tr X mX12_by 29 ls [] cn K N I65 R0 L0 0 0 := by
        intro fu
        induction fu with
        | zero => intros; rename_i hz; exact absurd hz (Nat.not_lt_zero _)
        | succ fu ih68 =>
          intro ls v59 v60 I65 hl61 hl62 hl63 hl64 hS66 g67 hm68
          refine tr_iload_n dX12_by_29 hl64 ?_
          refine q_iconst dX12_by_30 (by decide) ?_
          intro v70 h71
          refine tr_aload_n dX12_by_31 hl61 ?_
          refine tr_getR dX12_by_32 fl12_385 (kR15 hS66.1 ta0) d2 ?_
          obtain ⟨v72, c73⟩ : ∃ v, I0 a1 5 = v := ⟨_, rfl⟩
          have b74 := iv14_5 hW0 ta1 c73
          refine q_getI dX12_by_35 fl12_349 (kR14 hS66.1 ta1) ((hS66.cell ta1 (by decide +kernel)).trans c73) ?_
          refine q_ishlE dX12_by_38 (by omega) (by omega) ?_
          intro v75 h76
          refine q_icmp_ge 88 dX12_by_39 (by decide) (fun h77 => ?_) (fun h77 => ?_)
          · skip
            refine tr_aload_n dX12_by_88 hl61 ?_
            refine tr_iload_n dX12_by_89 hl63 ?_
            refine q_callVi hE (M' := mX12_good) (as := [_]) dX12_by_90 lk12_81 inX12_good seX12_good myX12_good (by decide) ⟨by decide, by decide⟩ rfl (kR15 hS66.1 ta0) (Nat.le_of_ble_eq_true rfl) rfl rfl (by decide) (by decide) (k_X12_good hS66.1 ta0) ?_
            rintro v82 cn' K' N' I78 R79 L80 ⟨rfl, rfl, rfl, rfl, rfl, g81, p83, -⟩
            have hS84 := hS66.tr g81 (by decide +kernel) (by decide +kernel)
            obtain ⟨v85, c86⟩ : ∃ v, I78 a0 2 = v := ⟨_, rfl⟩
            rw [c86] at p83
            exact tr_iret hZ dX12_by_93 rfl (by decide) (by decide) ⟨v82, rfl, rfl, rfl, rfl, rfl, rfl, hS84, (by (try rw [c86]); (try omega)), trivial⟩
          · skip
            refine tr_iload_n dX12_by_42 hl63 ?_
            refine q_bipush dX12_by_43 (by decide +kernel) ?_
            intro v87 h88
            refine q_icmp_eq 62 dX12_by_45 (by decide) (fun h89 => ?_) (fun h89 => ?_)
            · skip
              refine tr_aload_n dX12_by_62 hl61 ?_
              refine tr_aload_n dX12_by_63 hl61 ?_
              refine q_callVi hE (M' := mX12_everybody) (as := []) dX12_by_64 lk12_437 inX12_everybody seX12_everybody myX12_everybody (by decide) ⟨by decide, by decide⟩ rfl (kR15 hS66.1 ta0) (Nat.le_of_ble_eq_true rfl) rfl rfl (by decide) (by decide) (k_X12_everybody hS66.1 ta0 ⟨_, d2⟩) ?_
              rintro v94 cn' K' N' I90 R91 L92 ⟨rfl, rfl, rfl, rfl, rfl, rfl, h95, -⟩
              refine tr_iload_n dX12_by_67 hl64 ?_
              refine q_callVi hE (M' := mX12_goes) (as := [_, _]) dX12_by_68 lk12_440 inX12_goes seX12_goes myX12_goes (by decide) ⟨by decide, by decide⟩ rfl (kR15 hS66.1 ta0) (Nat.le_of_ble_eq_true rfl) rfl rfl (by decide) (by decide) (k_X12_goes hS66.1 ta0 ⟨_, d2⟩) ?_
              rintro v100 cn' K' N' I96 R97 L98 ⟨rfl, rfl, rfl, rfl, rfl, g99, -⟩
              have hS101 := hS66.tr g99 (by decide +kernel) (by decide +kernel)
              refine tr_pop dX12_by_71 rfl ?_
              refine tr_aload_n dX12_by_72 hl61 ?_
              refine tr_iload_n dX12_by_73 hl62 ?_
              refine q_callVi hE (M' := mX12_fitsNow) (as := [_]) dX12_by_74 lk12_488 inX12_fitsNow seX12_fitsNow myX12_fitsNow (by decide) ⟨by decide, by decide⟩ rfl (kR15 hS101.1 ta0) (Nat.le_of_ble_eq_true rfl) rfl rfl (by decide) (by decide) (k_X12_fitsNow hS101.1 ta0 (by omega) ⟨_, d2⟩) ?_
              rintro v106 cn' K' N' I102 R103 L104 ⟨rfl, rfl, rfl, rfl, rfl, rfl, -⟩
              refine q_if_eq 82 dX12_by_77 (by decide) (fun h107 => ?_) (fun h107 => ?_)
              · skip
                refine q_iincE dX12_by_82 hl64 (by decide) (by decide) (by intros; omega) ?_
                intro v108 h109
                refine tr_goto 29 dX12_by_85 (by decide) ?_
                exact ih68 _ v59 v108 I96 hl61 hl62 hl63 rfl hS101 (by omega) (by omega)
              · skip
                refine tr_iload_n dX12_by_80 hl64 ?_
                refine tr_istore_n dX12_by_81 (by decide) (by decide) ?_
                refine q_iincE dX12_by_82 hl64 (by decide) (by decide) (by intros; omega) ?_
                intro v110 h111
                refine tr_goto 29 dX12_by_85 (by decide) ?_
                exact ih68 _ v60 v110 I96 hl61 hl62 rfl rfl hS101 (by omega) (by omega)
            · skip
              refine tr_iload_n dX12_by_48 hl64 ?_
              refine q_callSi hE (M' := mX12_bits) (as := [_]) dX12_by_49 lk12_473 inX12_bits myX12_bits ⟨by decide, by decide⟩ rfl (Nat.le_of_ble_eq_true rfl) rfl rfl (by decide) (by decide) (k_X12_bits hS66.1 ) ?_
              rintro v116 cn' K' N' I112 R113 L114 ⟨rfl, rfl, rfl, rfl, rfl, rfl, -⟩
              refine tr_iload_n dX12_by_52 hl63 ?_
              refine q_callSi hE (M' := mX12_bits) (as := [_]) dX12_by_53 lk12_473 inX12_bits myX12_bits ⟨by decide, by decide⟩ rfl (Nat.le_of_ble_eq_true rfl) rfl rfl (by decide) (by decide) (k_X12_bits hS66.1 ) ?_
              rintro v121 cn' K' N' I117 R118 L119 ⟨rfl, rfl, rfl, rfl, rfl, rfl, -⟩
              refine q_icmp_lt 62 dX12_by_56 (by decide) (fun h122 => ?_) (fun h122 => ?_)
              · skip
                refine tr_aload_n dX12_by_62 hl61 ?_
                refine tr_aload_n dX12_by_63 hl61 ?_
                refine q_callVi hE (M' := mX12_everybody) (as := []) dX12_by_64 lk12_437 inX12_everybody seX12_everybody myX12_everybody (by decide) ⟨by decide, by decide⟩ rfl (kR15 hS66.1 ta0) (Nat.le_of_ble_eq_true rfl) rfl rfl (by decide) (by decide) (k_X12_everybody hS66.1 ta0 ⟨_, d2⟩) ?_
                rintro v127 cn' K' N' I123 R124 L125 ⟨rfl, rfl, rfl, rfl, rfl, rfl, h128, -⟩
                refine tr_iload_n dX12_by_67 hl64 ?_
                refine q_callVi hE (M' := mX12_goes) (as := [_, _]) dX12_by_68 lk12_440 inX12_goes seX12_goes myX12_goes (by decide) ⟨by decide, by decide⟩ rfl (kR15 hS66.1 ta0) (Nat.le_of_ble_eq_true rfl) rfl rfl (by decide) (by decide) (k_X12_goes hS66.1 ta0 ⟨_, d2⟩) ?_
                rintro v133 cn' K' N' I129 R130 L131 ⟨rfl, rfl, rfl, rfl, rfl, g132, -⟩
                have hS134 := hS66.tr g132 (by decide +kernel) (by decide +kernel)
                refine tr_pop dX12_by_71 rfl ?_
                refine tr_aload_n dX12_by_72 hl61 ?_
                refine tr_iload_n dX12_by_73 hl62 ?_
                refine q_callVi hE (M' := mX12_fitsNow) (as := [_]) dX12_by_74 lk12_488 inX12_fitsNow seX12_fitsNow myX12_fitsNow (by decide) ⟨by decide, by decide⟩ rfl (kR15 hS134.1 ta0) (Nat.le_of_ble_eq_true rfl) rfl rfl (by decide) (by decide) (k_X12_fitsNow hS134.1 ta0 (by omega) ⟨_, d2⟩) ?_
                rintro v139 cn' K' N' I135 R136 L137 ⟨rfl, rfl, rfl, rfl, rfl, rfl, -⟩
                refine q_if_eq 82 dX12_by_77 (by decide) (fun h140 => ?_) (fun h140 => ?_)
                · skip
                  refine q_iincE dX12_by_82 hl64 (by decide) (by decide) (by intros; omega) ?_
                  intro v141 h142
                  refine tr_goto 29 dX12_by_85 (by decide) ?_
                  exact ih68 _ v59 v141 I129 hl61 hl62 hl63 rfl hS134 (by omega) (by omega)
                · skip
                  refine tr_iload_n dX12_by_80 hl64 ?_
                  refine tr_istore_n dX12_by_81 (by decide) (by decide) ?_
                  refine q_iincE dX12_by_82 hl64 (by decide) (by decide) (by intros; omega) ?_
                  intro v143 h144
                  refine tr_goto 29 dX12_by_85 (by decide) ?_
                  exact ih68 _ v60 v143 I129 hl61 hl62 rfl rfl hS134 (by omega) (by omega)
              · skip
                refine tr_goto 82 dX12_by_59 (by decide) ?_
                refine q_iincE dX12_by_82 hl64 (by decide) (by decide) (by intros; omega) ?_
                intro v145 h146
                refine tr_goto 29 dX12_by_85 (by decide) ?_
                exact ih68 _ v59 v145 I65 hl61 hl62 hl63 rfl hS66 (by omega) (by omega)
      exact lp68 _ _ v55 v57 I48 rfl rfl rfl rfl hS53 (by omega) (Nat.lt_succ_self _)
    · skip
      refine tr_aload_n dX12_by_13 rfl ?_
      refine q_iconst dX12_by_14 (by decide) ?_
      intro v147 h148
      refine q_callVi hE (M' := mX12_refused) (as := [_]) dX12_by_15 lk12_76 inX12_refused seX12_refused myX12_refused (by decide) ⟨by decide, by decide⟩ rfl (kR15 hS34.1 ta0) (Nat.le_of_ble_eq_true rfl) rfl rfl (by decide) (by decide) (k_X12_refused hS34.1 ta0) ?_
      rintro v153 cn' K' N' I149 R150 L151 ⟨rfl, rfl, rfl, rfl, rfl, g152, p154, -⟩
      have hS155 := hS34.tr g152 (by decide +kernel) (by decide +kernel)
      have c156 : I149 a0 0 = v31 := (g152.cell ta0 (by decide +kernel)).trans e35
      obtain ⟨v157, c158⟩ : ∃ v, I149 a0 2 = v := ⟨_, rfl⟩
      rw [c158] at p154
      exact tr_iret hZ dX12_by_18 rfl (by decide) (by decide) ⟨v153, rfl, rfl, rfl, rfl, rfl, rfl, hS155, (by (try rw [c158]); (try omega)), trivial⟩
def wi_X12_drawOf : List Nat := [4991]
def wr_X12_drawOf : List Nat := []
set_option maxHeartbeats 4000000 in
theorem k_X12_drawOf {l : Launch} {T : Nat → Nat} {cn : Nat} {K N : Nat → Nat} {I0 : cz_I} {R0 : cz_R} {L0 : cz_L} {d : Int} (hW0 : Wf T cn K N I0 R0 d) {a0 : Nat} (ta0 : T a0 = 15) {x1 : Int32} (hx1 : 1 ≤ x1.toInt ∧ x1.toInt ≤ 240) : ConE l mX12_drawOf [.ref a0, .int x1] cn K N I0 R0 L0 (ca_i (fun v cn' K' N' I' R' L' => cn = cn' ∧ K = K' ∧ N = N' ∧ R0 = R' ∧ L0 = L' ∧ St T cn K N d wi_X12_drawOf wr_X12_drawOf I0 R0 I' R0 ∧ (0 ≤ v.toInt ∧ v.toInt ≤ 239) ∧ (v.toInt < x1.toInt) ∧ (∀ b1, R0 a0 16 = some b1 → (I' b1 1).toInt = (I0 b1 1).toInt) ∧ True)) := by
  refine ConE.of (by decide +kernel) rfl (Nat.le_of_ble_eq_true rfl) rfl (fun X hX hZ hE => ?_)
  subst hX
  have hS0 : St T cn K N d wi_X12_drawOf wr_X12_drawOf I0 R0 I0 R0 := St.rf0 hW0
  obtain ⟨a1, d2, ta1⟩ := rf15_16 hW0 ta0
  obtain ⟨v3, c4⟩ : ∃ v, I0 a1 1 = v := ⟨_, rfl⟩
  have b5 := iv77_1 hS0.1 ta1 (by decide) c4
  refine tr_aload_n dX12_drawOf_0 rfl ?_
  refine tr_getR dX12_drawOf_1 fl12_17 (kR15 hS0.1 ta0) d2 ?_
  refine q_iconst dX12_drawOf_4 (by decide) ?_
  intro v6 h7
  refine q_ldc2E 75 dX12_drawOf_5 ld12_491 (by decide +kernel) ?_
  intro y8 h9
  refine tr_aload_n dX12_drawOf_8 rfl ?_
  refine tr_getR dX12_drawOf_9 fl12_17 (kR15 hS0.1 ta0) d2 ?_
  refine q_iconst dX12_drawOf_12 (by decide) ?_
  intro v10 h11
  obtain ⟨v12, c13⟩ : ∃ v, I0 a1 2 = v := ⟨_, rfl⟩
  have b14 := iv77_2 hS0.1 ta1 (by decide) c13
  refine q_iald dX12_drawOf_13 (kR77 hS0.1 ta1) (ti_in (nR77 hS0.1 ta1) (by omega) (by omega)) ?_
  intro v15 c16
  rw [show v10.toNatClampNeg = 2 from ti_cl (by omega)] at c16
  obtain rfl : v12 = v15 := (c13).symm.trans c16
  refine q_i2lE dX12_drawOf_14 ?_
  intro y17 h18
  refine q_lmulE (c := 75) dX12_drawOf_15 (by omega) (by omega) ?_
  intro y19 h20
  refine q_ldc2E 74 dX12_drawOf_16 ld12_493 (by decide +kernel) ?_
  intro y21 h22
  refine q_laddE dX12_drawOf_19 (by omega) ?_
  intro y23 h24
  refine q_ldc2E 65537 dX12_drawOf_20 ld12_495 (by decide +kernel) ?_
  intro y25 h26
  refine q_lremE dX12_drawOf_23 (by omega) ?_
  intro y27 h28
  refine q_l2iE dX12_drawOf_24 (by omega) ?_
  intro v29 h30
  refine q_iast dX12_drawOf_25 (kR77 hS0.1 ta1) (ti_in (nR77 hS0.1 ta1) (by omega) (by omega)) hS0 ta1 (iok_w2 rfl (by have q := ti_nat (i := v6) (by omega); omega) (by omega)) rfl (by rfl) ?_
  intro I31 hS32 e34 f33
  have c35 : I31 a1 1 = v3 := (f33 _ _ (fun q => by have z := ti_nat (i := v6) (by omega); omega)).trans c4
  rw [show v6.toNatClampNeg = 2 from ti_cl (by omega)] at e34
  refine tr_aload_n dX12_drawOf_26 rfl ?_
  refine tr_getR dX12_drawOf_27 fl12_17 (kR15 hS32.1 ta0) d2 ?_
  refine q_iconst dX12_drawOf_30 (by decide) ?_
  intro v36 h37
  refine q_iald dX12_drawOf_31 (kR77 hS32.1 ta1) (ti_in (nR77 hS32.1 ta1) (by omega) (by omega)) ?_
  intro v38 c39
  rw [show v36.toNatClampNeg = 2 from ti_cl (by omega)] at c39
  obtain rfl : v29 = v38 := (e34).symm.trans c39
  refine tr_iload_n dX12_drawOf_32 rfl ?_
  refine q_iremE dX12_drawOf_33 (by omega) ?_
  intro v40 h41
  exact tr_iret hZ dX12_drawOf_34 rfl (by decide) (by decide) ⟨v40, rfl, rfl, rfl, rfl, rfl, rfl, hS32, (by omega), (by omega), (fun q0 z0 => by obtain rfl := Option.some.inj ((d2).symm.trans z0); (try rw [c35]); (try rw [c4]); (try omega)), trivial⟩
def wi_X12_comes : List Nat := [4991]
def wr_X12_comes : List Nat := []
set_option maxHeartbeats 4000000 in
theorem k_X12_comes {l : Launch} {T : Nat → Nat} {cn : Nat} {K N : Nat → Nat} {I0 : cz_I} {R0 : cz_R} {L0 : cz_L} {d : Int} (hW0 : Wf T cn K N I0 R0 d) {a0 : Nat} (ta0 : T a0 = 15) {x1 : Int32} (hx1 : 0 ≤ x1.toInt ∧ x1.toInt ≤ 240) {x2 : Int32} (hx2 : 0 ≤ x2.toInt ∧ x2.toInt ≤ 240) (pre0 : ∀ b1, R0 a0 16 = some b1 → (I0 b1 1).toInt ≤ 5) : ConE l mX12_comes [.ref a0, .int x1, .int x2] cn K N I0 R0 L0 (ca_v (fun cn' K' N' I' R' L' => cn = cn' ∧ K = K' ∧ N = N' ∧ R0 = R' ∧ L0 = L' ∧ St T cn K N d wi_X12_comes wr_X12_comes I0 R0 I' R0 ∧ (∀ b1, R0 a0 16 = some b1 → (I' b1 1).toInt = (I0 b1 1).toInt + 1) ∧ True)) := by
  refine ConE.of (by decide +kernel) rfl (Nat.le_of_ble_eq_true rfl) rfl (fun X hX hZ hE => ?_)
  subst hX
  have hS0 : St T cn K N d wi_X12_comes wr_X12_comes I0 R0 I0 R0 := St.rf0 hW0
  obtain ⟨a1, d2, ta1⟩ := rf15_16 hW0 ta0
  obtain ⟨v3, c4⟩ : ∃ v, I0 a1 1 = v := ⟨_, rfl⟩
  have b5 := iv77_1 hS0.1 ta1 (by decide) c4
  have p6 := pre0 _ d2
  rw [c4] at p6
  refine tr_aload_n dX12_comes_0 rfl ?_
  refine tr_getR dX12_comes_1 fl12_17 (kR15 hS0.1 ta0) d2 ?_
  refine q_iconst dX12_comes_4 (by decide) ?_
  intro v7 h8
  refine tr_aload_n dX12_comes_5 rfl ?_
  refine tr_getR dX12_comes_6 fl12_17 (kR15 hS0.1 ta0) d2 ?_
  refine q_iconst dX12_comes_9 (by decide) ?_
  intro v9 h10
  refine q_iald dX12_comes_10 (kR77 hS0.1 ta1) (ti_in (nR77 hS0.1 ta1) (by omega) (by omega)) ?_
  intro v11 c12
  rw [show v9.toNatClampNeg = 1 from ti_cl (by omega)] at c12
  obtain rfl : v3 = v11 := (c4).symm.trans c12
  refine q_iaddE dX12_comes_11 (by intros; omega) ?_
  intro v13 h14
  refine tr_iload_n dX12_comes_12 rfl ?_
  refine q_iast dX12_comes_13 (kR77 hS0.1 ta1) (ti_in (nR77 hS0.1 ta1) (by omega) (by omega)) hS0 ta1 (iok_w3 rfl (by have q := ti_nat (i := v13) (by omega); omega) (by omega)) rfl (by rfl) ?_
  intro I15 hS16 e18 f17
  have c19 : I15 a1 1 = v3 := (f17 _ _ (fun q => by have z := ti_nat (i := v13) (by omega); omega)).trans c4
  refine tr_aload_n dX12_comes_14 rfl ?_
  refine tr_getR dX12_comes_15 fl12_17 (kR15 hS16.1 ta0) d2 ?_
  refine q_bipush dX12_comes_18 (by decide +kernel) ?_
  intro v20 h21
  refine tr_aload_n dX12_comes_20 rfl ?_
  refine tr_getR dX12_comes_21 fl12_17 (kR15 hS16.1 ta0) d2 ?_
  refine q_iconst dX12_comes_24 (by decide) ?_
  intro v22 h23
  refine q_iald dX12_comes_25 (kR77 hS16.1 ta1) (ti_in (nR77 hS16.1 ta1) (by omega) (by omega)) ?_
  intro v24 c25
  rw [show v22.toNatClampNeg = 1 from ti_cl (by omega)] at c25
  obtain rfl : v3 = v24 := (c19).symm.trans c25
  refine q_iaddE dX12_comes_26 (by intros; omega) ?_
  intro v26 h27
  refine tr_iload_n dX12_comes_27 rfl ?_
  refine q_iast dX12_comes_28 (kR77 hS16.1 ta1) (ti_in (nR77 hS16.1 ta1) (by omega) (by omega)) hS16 ta1 (iok_w3 rfl (by have q := ti_nat (i := v26) (by omega); omega) (by omega)) rfl (by rfl) ?_
  intro I28 hS29 e31 f30
  have c32 : I28 a1 1 = v3 := (f30 _ _ (fun q => by have z := ti_nat (i := v26) (by omega); omega)).trans c19
  refine tr_aload_n dX12_comes_29 rfl ?_
  refine tr_getR dX12_comes_30 fl12_17 (kR15 hS29.1 ta0) d2 ?_
  refine q_iconst dX12_comes_33 (by decide) ?_
  intro v33 h34
  refine tr_dup2 dX12_comes_34 rfl rfl ?_
  refine q_iald dX12_comes_35 (kR77 hS29.1 ta1) (ti_in (nR77 hS29.1 ta1) (by omega) (by omega)) ?_
  intro v35 c36
  rw [show v33.toNatClampNeg = 1 from ti_cl (by omega)] at c36
  obtain rfl : v3 = v35 := (c32).symm.trans c36
  refine q_iconst dX12_comes_36 (by decide) ?_
  intro v37 h38
  refine q_iaddE dX12_comes_37 (by intros; omega) ?_
  intro v39 h40
  refine q_iast dX12_comes_38 (kR77 hS29.1 ta1) (ti_in (nR77 hS29.1 ta1) (by omega) (by omega)) hS29 ta1 (iok_w1 rfl (by have q := ti_nat (i := v33) (by omega); omega) (by omega)) rfl (by rfl) ?_
  intro I41 hS42 e44 f43
  rw [show v33.toNatClampNeg = 1 from ti_cl (by omega)] at e44
  exact tr_vret hZ dX12_comes_39 rfl (by decide) (by decide) ⟨rfl, rfl, rfl, rfl, rfl, rfl, hS42, (fun q0 z0 => by obtain rfl := Option.some.inj ((d2).symm.trans z0); (try rw [e44]); (try rw [c4]); (try omega)), trivial⟩
def wi_X12_draws : List Nat := [4991]
def wr_X12_draws : List Nat := []
set_option maxHeartbeats 4000000 in
theorem k_X12_draws {l : Launch} {T : Nat → Nat} {cn : Nat} {K N : Nat → Nat} {I0 : cz_I} {R0 : cz_R} {L0 : cz_L} {d : Int} (hW0 : Wf T cn K N I0 R0 d) {a0 : Nat} (ta0 : T a0 = 15) (pre0 : ∀ b1, R0 a0 16 = some b1 → (I0 b1 1).toInt ≤ 5) (nn3 : ∃ b, R0 a0 3 = some b) : ConE l mX12_draws [.ref a0] cn K N I0 R0 L0 (ca_i (fun v cn' K' N' I' R' L' => cn = cn' ∧ K = K' ∧ N = N' ∧ R0 = R' ∧ L0 = L' ∧ St T cn K N d wi_X12_draws wr_X12_draws I0 R0 I' R0 ∧ (0 ≤ v.toInt ∧ v.toInt ≤ 239) ∧ (∀ b1, R0 a0 16 = some b1 → (I' b1 1).toInt = (I0 b1 1).toInt + 1) ∧ True)) := by
  refine ConE.of (by decide +kernel) rfl (Nat.le_of_ble_eq_true rfl) rfl (fun X hX hZ hE => ?_)
  subst hX
  have hS0 : St T cn K N d wi_X12_draws wr_X12_draws I0 R0 I0 R0 := St.rf0 hW0
  obtain ⟨a1, d2⟩ := nn3
  have ta1 : T a1 = 14 := hW0.rsN ta0 rfl d2
  obtain ⟨a3, d4, ta3⟩ := rf15_16 hW0 ta0
  obtain ⟨v5, c6⟩ : ∃ v, I0 a3 1 = v := ⟨_, rfl⟩
  have b7 := iv77_1 hS0.1 ta3 (by decide) c6
  have p8 := pre0 _ d4
  rw [c6] at p8
  refine tr_aload_n dX12_draws_0 rfl ?_
  refine tr_aload_n dX12_draws_1 rfl ?_
  refine tr_getR dX12_draws_2 fl12_385 (kR15 hS0.1 ta0) d2 ?_
  obtain ⟨v9, c10⟩ : ∃ v, I0 a1 0 = v := ⟨_, rfl⟩
  have b11 := hW0.2.2.2.2.2.1 a0 ta0 _ d2
  rw [c10] at b11
  have b12 := iv14_0 hW0 ta1 c10
  refine q_getI dX12_draws_5 fl12_192 (kR14 hS0.1 ta1) c10 ?_
  refine q_callVi hE (M' := mX12_drawOf) (as := [_]) dX12_draws_8 lk12_497 inX12_drawOf seX12_drawOf myX12_drawOf (by decide) ⟨by decide, by decide⟩ rfl (kR15 hS0.1 ta0) (Nat.le_of_ble_eq_true rfl) rfl rfl (by decide) (by decide) (k_X12_drawOf hS0.1 ta0 (by omega)) ?_
  rintro v17 cn' K' N' I13 R14 L15 ⟨rfl, rfl, rfl, rfl, rfl, g16, h18, p19, p20, -⟩
  have hS21 := hS0.tr g16 (by decide +kernel) (by decide +kernel)
  obtain ⟨v22, c23⟩ : ∃ v, I13 a3 1 = v := ⟨_, rfl⟩
  have b24 := iv77_1 hS21.1 ta3 (by decide) c23
  have p25 := p20 _ d4
  clear p20
  rw [c23] at p25
  rw [c6] at p25
  refine tr_istore_n dX12_draws_11 (by decide) (by decide) ?_
  refine tr_iload_n dX12_draws_12 rfl ?_
  refine q_iconst dX12_draws_13 (by decide) ?_
  intro v26 h27
  refine q_iaddE dX12_draws_14 (by intros; omega) ?_
  intro v28 h29
  refine tr_aload_n dX12_draws_15 rfl ?_
  refine q_bipush dX12_draws_16 (by decide +kernel) ?_
  intro v30 h31
  refine q_callVi hE (M' := mX12_drawOf) (as := [_]) dX12_draws_18 lk12_497 inX12_drawOf seX12_drawOf myX12_drawOf (by decide) ⟨by decide, by decide⟩ rfl (kR15 hS21.1 ta0) (Nat.le_of_ble_eq_true rfl) rfl rfl (by decide) (by decide) (k_X12_drawOf hS21.1 ta0 (by omega)) ?_
  rintro v36 cn' K' N' I32 R33 L34 ⟨rfl, rfl, rfl, rfl, rfl, g35, h37, p38, p39, -⟩
  have hS40 := hS21.tr g35 (by decide +kernel) (by decide +kernel)
  obtain ⟨v41, c42⟩ : ∃ v, I32 a3 1 = v := ⟨_, rfl⟩
  have b43 := iv77_1 hS40.1 ta3 (by decide) c42
  have p44 := p39 _ d4
  clear p39
  rw [c42] at p44
  rw [c23] at p44
  refine q_iaddE dX12_draws_21 (by intros; omega) ?_
  intro v45 h46
  refine tr_istore_n dX12_draws_22 (by decide) (by decide) ?_
  refine tr_aload_n dX12_draws_23 rfl ?_
  refine tr_iload_n dX12_draws_24 rfl ?_
  refine tr_iload_n dX12_draws_25 rfl ?_
  refine tr_aload_n dX12_draws_26 rfl ?_
  refine tr_getR dX12_draws_27 fl12_385 (kR15 hS40.1 ta0) d2 ?_
  refine q_getI dX12_draws_30 fl12_192 (kR14 hS40.1 ta1) ((hS40.cell ta1 (by decide +kernel)).trans c10) ?_
  refine q_icmp_ge 40 dX12_draws_33 (by decide) (fun h47 => ?_) (fun h47 => ?_)
  · skip
    refine tr_aload_n dX12_draws_40 rfl ?_
    refine tr_getR dX12_draws_41 fl12_385 (kR15 hS40.1 ta0) d2 ?_
    refine q_getI dX12_draws_44 fl12_192 (kR14 hS40.1 ta1) ((hS40.cell ta1 (by decide +kernel)).trans c10) ?_
    refine q_callVv hE (M' := mX12_comes) (as := [_, _]) dX12_draws_47 lk12_500 inX12_comes seX12_comes myX12_comes (by decide) ⟨by decide, by decide⟩ rfl (kR15 hS40.1 ta0) (Nat.le_of_ble_eq_true rfl) rfl rfl (by decide) (by decide) (k_X12_comes hS40.1 ta0 (by omega) (by omega) (fun q0 z0 => by obtain rfl := Option.some.inj ((d4).symm.trans z0); (try rw [c42]); (try omega))) ?_
    rintro cn' K' N' I48 R49 L50 ⟨rfl, rfl, rfl, rfl, rfl, g51, p53, -⟩
    have hS54 := hS40.tr g51 (by decide +kernel) (by decide +kernel)
    obtain ⟨v55, c56⟩ : ∃ v, I48 a3 1 = v := ⟨_, rfl⟩
    have b57 := iv77_1 hS54.1 ta3 (by decide) c56
    have p58 := p53 _ d4
    clear p53
    rw [c56] at p58
    rw [c42] at p58
    refine tr_iload_n dX12_draws_50 rfl ?_
    exact tr_iret hZ dX12_draws_51 rfl (by decide) (by decide) ⟨v17, rfl, rfl, rfl, rfl, rfl, rfl, hS54, (by omega), (fun q0 z0 => by obtain rfl := Option.some.inj ((d4).symm.trans z0); (try rw [c56]); (try rw [c6]); (try omega)), trivial⟩
  · skip
    refine tr_iload_n dX12_draws_36 rfl ?_
    refine tr_goto 47 dX12_draws_37 (by decide) ?_
    refine q_callVv hE (M' := mX12_comes) (as := [_, _]) dX12_draws_47 lk12_500 inX12_comes seX12_comes myX12_comes (by decide) ⟨by decide, by decide⟩ rfl (kR15 hS40.1 ta0) (Nat.le_of_ble_eq_true rfl) rfl rfl (by decide) (by decide) (k_X12_comes hS40.1 ta0 (by omega) (by omega) (fun q0 z0 => by obtain rfl := Option.some.inj ((d4).symm.trans z0); (try rw [c42]); (try omega))) ?_
    rintro cn' K' N' I59 R60 L61 ⟨rfl, rfl, rfl, rfl, rfl, g62, p64, -⟩
    have hS65 := hS40.tr g62 (by decide +kernel) (by decide +kernel)
    obtain ⟨v66, c67⟩ : ∃ v, I59 a3 1 = v := ⟨_, rfl⟩
    have b68 := iv77_1 hS65.1 ta3 (by decide) c67
    have p69 := p64 _ d4
    clear p64
    rw [c67] at p69
    rw [c42] at p69
    refine tr_iload_n dX12_draws_50 rfl ?_
    exact tr_iret hZ dX12_draws_51 rfl (by decide) (by decide) ⟨v17, rfl, rfl, rfl, rfl, rfl, rfl, hS65, (by omega), (fun q0 z0 => by obtain rfl := Option.some.inj ((d4).symm.trans z0); (try rw [c67]); (try rw [c6]); (try omega)), trivial⟩
def wi_X12_nights : List Nat := [960, 961, 962, 4991, 5183, 5247, 5311, 5375, 5439, 5503, 5567, 5631, 5695, 5759, 5823, 5887, 5951, 6015]
def wr_X12_nights : List Nat := []
set_option maxHeartbeats 4000000 in
theorem k_X12_nights {l : Launch} {T : Nat → Nat} {cn : Nat} {K N : Nat → Nat} {I0 : cz_I} {R0 : cz_R} {L0 : cz_L} {d : Int} (hW0 : Wf T cn K N I0 R0 d) {a0 : Nat} (ta0 : T a0 = 15) {x1 : Int32} {x2 : Int32} {x3 : Int32} : ConE l mX12_nights [.ref a0, .int x1, .int x2, .int x3] cn K N I0 R0 L0 (ca_i (fun v cn' K' N' I' R' L' => cn = cn' ∧ K = K' ∧ N = N' ∧ R0 = R' ∧ L0 = L' ∧ St T cn K N d wi_X12_nights wr_X12_nights I0 R0 I' R0 ∧ ((I' a0 2).toInt = -1) ∧ True)) := by
  refine ConE.of (by decide +kernel) rfl (Nat.le_of_ble_eq_true rfl) rfl (fun X hX hZ hE => ?_)
  subst hX
  have hS0 : St T cn K N d wi_X12_nights wr_X12_nights I0 R0 I0 R0 := St.rf0 hW0
  rcases rf15_3 hW0 ta0 with d2 | ⟨a1, d2, ta1⟩
  · skip
    refine tr_aload_n dX12_nights_0 rfl ?_
    refine q_iconst dX12_nights_1 (by decide) ?_
    intro v3 h4
    refine q_putI dX12_nights_2 fl12_70 (kR15 hS0.1 ta0) (Or.inl rfl) hS0 ta0 (iokF rfl) rfl (by decide +kernel) ?_
    intro I5 hS6 e7 f8
    refine tr_aload_n dX12_nights_5 rfl ?_
    refine tr_getN dX12_nights_6 fl12_385 (kR15 hS6.1 ta0) d2 ?_
    refine tr_ifnonnullN dX12_nights_9 ?_
    refine tr_aload_n dX12_nights_12 rfl ?_
    refine q_iconst dX12_nights_13 (by decide) ?_
    intro v9 h10
    refine q_callVi hE (M' := mX12_lost) (as := [_]) dX12_nights_14 lk12_458 inX12_lost seX12_lost myX12_lost (by decide) ⟨by decide, by decide⟩ rfl (kR15 hS6.1 ta0) (Nat.le_of_ble_eq_true rfl) rfl rfl (by decide) (by decide) (k_X12_lost hS6.1 ta0) ?_
    rintro v15 cn' K' N' I11 R12 L13 ⟨rfl, rfl, rfl, rfl, rfl, g14, p16, -⟩
    have hS17 := hS6.tr g14 (by decide +kernel) (by decide +kernel)
    have c18 : I11 a0 0 = v3 := (g14.cell ta0 (by decide +kernel)).trans e7
    obtain ⟨v19, c20⟩ : ∃ v, I11 a0 2 = v := ⟨_, rfl⟩
    rw [c20] at p16
    exact tr_iret hZ dX12_nights_17 rfl (by decide) (by decide) ⟨v15, rfl, rfl, rfl, rfl, rfl, rfl, hS17, (by (try rw [c20]); (try omega)), trivial⟩
  · skip
    refine tr_aload_n dX12_nights_0 rfl ?_
    refine q_iconst dX12_nights_1 (by decide) ?_
    intro v21 h22
    refine q_putI dX12_nights_2 fl12_70 (kR15 hS0.1 ta0) (Or.inl rfl) hS0 ta0 (iokF rfl) rfl (by decide +kernel) ?_
    intro I23 hS24 e25 f26
    refine tr_aload_n dX12_nights_5 rfl ?_
    refine tr_getR dX12_nights_6 fl12_385 (kR15 hS24.1 ta0) d2 ?_
    refine tr_ifnonnull 18 dX12_nights_9 (by decide) ?_
    refine tr_iload_n dX12_nights_18 rfl ?_
    refine q_iconst dX12_nights_19 (by decide) ?_
    intro v27 h28
    refine q_ldcw 65536 dX12_nights_20 ld12_503 (by decide +kernel) ?_
    intro v29 h30
    refine q_callSi hE (M' := mX12_in) (as := [_, _, _]) dX12_nights_23 lk12_149 inX12_in myX12_in ⟨by decide, by decide⟩ rfl (Nat.le_of_ble_eq_true rfl) rfl rfl (by decide) (by decide) (k_X12_in hS24.1 ) ?_
    rintro v35 cn' K' N' I31 R32 L33 ⟨rfl, rfl, rfl, rfl, rfl, rfl, h36, p37, p38, -⟩
    refine q_if_eq 49 dX12_nights_26 (by decide) (fun h39 => ?_) (fun h39 => ?_)
    · skip
      refine tr_aload_n dX12_nights_49 rfl ?_
      refine q_iconst dX12_nights_50 (by decide) ?_
      intro v40 h41
      refine q_callVi hE (M' := mX12_lost) (as := [_]) dX12_nights_51 lk12_458 inX12_lost seX12_lost myX12_lost (by decide) ⟨by decide, by decide⟩ rfl (kR15 hS24.1 ta0) (Nat.le_of_ble_eq_true rfl) rfl rfl (by decide) (by decide) (k_X12_lost hS24.1 ta0) ?_
      rintro v46 cn' K' N' I42 R43 L44 ⟨rfl, rfl, rfl, rfl, rfl, g45, p47, -⟩
      have hS48 := hS24.tr g45 (by decide +kernel) (by decide +kernel)
      have c49 : I42 a0 0 = v21 := (g45.cell ta0 (by decide +kernel)).trans e25
      obtain ⟨v50, c51⟩ : ∃ v, I42 a0 2 = v := ⟨_, rfl⟩
      rw [c51] at p47
      exact tr_iret hZ dX12_nights_54 rfl (by decide) (by decide) ⟨v46, rfl, rfl, rfl, rfl, rfl, rfl, hS48, (by (try rw [c51]); (try omega)), trivial⟩
    · skip
      refine tr_iload_n dX12_nights_29 rfl ?_
      refine q_iconst dX12_nights_30 (by decide) ?_
      intro v52 h53
      refine q_bipush dX12_nights_31 (by decide +kernel) ?_
      intro v54 h55
      refine q_callSi hE (M' := mX12_in) (as := [_, _, _]) dX12_nights_33 lk12_149 inX12_in myX12_in ⟨by decide, by decide⟩ rfl (Nat.le_of_ble_eq_true rfl) rfl rfl (by decide) (by decide) (k_X12_in hS24.1 ) ?_
      rintro v60 cn' K' N' I56 R57 L58 ⟨rfl, rfl, rfl, rfl, rfl, rfl, h61, p62, p63, -⟩
      refine q_if_eq 49 dX12_nights_36 (by decide) (fun h64 => ?_) (fun h64 => ?_)
      · skip
        refine tr_aload_n dX12_nights_49 rfl ?_
        refine q_iconst dX12_nights_50 (by decide) ?_
        intro v65 h66
        refine q_callVi hE (M' := mX12_lost) (as := [_]) dX12_nights_51 lk12_458 inX12_lost seX12_lost myX12_lost (by decide) ⟨by decide, by decide⟩ rfl (kR15 hS24.1 ta0) (Nat.le_of_ble_eq_true rfl) rfl rfl (by decide) (by decide) (k_X12_lost hS24.1 ta0) ?_
        rintro v71 cn' K' N' I67 R68 L69 ⟨rfl, rfl, rfl, rfl, rfl, g70, p72, -⟩
        have hS73 := hS24.tr g70 (by decide +kernel) (by decide +kernel)
        have c74 : I67 a0 0 = v21 := (g70.cell ta0 (by decide +kernel)).trans e25
        obtain ⟨v75, c76⟩ : ∃ v, I67 a0 2 = v := ⟨_, rfl⟩
        rw [c76] at p72
        exact tr_iret hZ dX12_nights_54 rfl (by decide) (by decide) ⟨v71, rfl, rfl, rfl, rfl, rfl, rfl, hS73, (by (try rw [c76]); (try omega)), trivial⟩
      · skip
        refine tr_iload_n dX12_nights_39 rfl ?_
        refine q_iconst dX12_nights_40 (by decide) ?_
        intro v77 h78
        refine q_bipush dX12_nights_41 (by decide +kernel) ?_
        intro v79 h80
        refine q_callSi hE (M' := mX12_in) (as := [_, _, _]) dX12_nights_43 lk12_149 inX12_in myX12_in ⟨by decide, by decide⟩ rfl (Nat.le_of_ble_eq_true rfl) rfl rfl (by decide) (by decide) (k_X12_in hS24.1 ) ?_
        rintro v85 cn' K' N' I81 R82 L83 ⟨rfl, rfl, rfl, rfl, rfl, rfl, h86, p87, p88, -⟩
        refine q_if_ne 55 dX12_nights_46 (by decide) (fun h89 => ?_) (fun h89 => ?_)
        · skip
          refine q_iconst dX12_nights_55 (by decide) ?_
          intro v90 h91
          refine tr_istore dX12_nights_56 (by decide) (by decide) ?_
          have lp101 : ∀ (fu : Nat) (ls : Nat → Option Value) (v92 : Int32) (I98 : cz_I), ls 0 = some (.ref a0) → ls 1 = some (.int x1) → ls 2 = some (.int x2) → ls 3 = some (.int x3) → ls 4 = some (.int v92) → St T cn K N d wi_X12_nights wr_X12_nights I0 R0 I98 R0 → 0 ≤ v92.toInt → (-v92.toInt + 2147483647).toNat < fu → Tr X mX12_nights 58 ls [] cn K N I98 R0 L0 0 0 := by
            intro fu
            induction fu with
            | zero => intros; rename_i hz; exact absurd hz (Nat.not_lt_zero _)
            | succ fu ih101 =>
              intro ls v92 I98 hl93 hl94 hl95 hl96 hl97 hS99 g100 hm101
              refine tr_iload dX12_nights_58 hl97 ?_
              refine q_bipush dX12_nights_60 (by decide +kernel) ?_
              intro v103 h104
              refine q_icmp_ge 85 dX12_nights_62 (by decide) (fun h105 => ?_) (fun h105 => ?_)
              · skip
                refine tr_aload_n dX12_nights_85 hl93 ?_
                obtain ⟨a106, d107, ta106⟩ := rf15_16 hW0 ta0
                refine tr_getR dX12_nights_86 fl12_17 (kR15 hS99.1 ta0) d107 ?_
                refine q_iconst dX12_nights_89 (by decide) ?_
                intro v108 h109
                refine tr_iload_n dX12_nights_90 hl94 ?_
                refine q_iast dX12_nights_91 (kR77 hS99.1 ta106) (ti_in (nR77 hS99.1 ta106) (by omega) (by omega)) hS99 ta106 (iok_w2 rfl (by have q := ti_nat (i := v108) (by omega); omega) (by omega)) rfl (by rfl) ?_
                intro I110 hS111 e113 f112
                rw [show v108.toNatClampNeg = 2 from ti_cl (by omega)] at e113
                refine q_iconst dX12_nights_92 (by decide) ?_
                intro v114 h115
                refine tr_istore dX12_nights_93 (by decide) (by decide) ?_
                refine q_iconst dX12_nights_95 (by decide) ?_
                intro v116 h117
                refine tr_istore dX12_nights_96 (by decide) (by decide) ?_
                have lp129 : ∀ (fu : Nat) (ls : Nat → Option Value) (v118 : Int32) (v119 : Int32) (I126 : cz_I), ls 0 = some (.ref a0) → ls 1 = some (.int x1) → ls 2 = some (.int x2) → ls 3 = some (.int x3) → ls 4 = some (.int v118) → ls 5 = some (.int v119) → St T cn K N d wi_X12_nights wr_X12_nights I0 R0 I126 R0 → 0 ≤ v119.toInt → (-v119.toInt + 2147483647).toNat < fu → Tr X mX12_nights 98 ls [] cn K N I126 R0 L0 0 0 := by
                  intro fu
                  induction fu with
                  | zero => intros; rename_i hz; exact absurd hz (Nat.not_lt_zero _)
                  | succ fu ih129 =>
                    intro ls v118 v119 I126 hl120 hl121 hl122 hl123 hl124 hl125 hS127 g128 hm129
                    refine tr_iload dX12_nights_98 hl125 ?_
                    refine tr_iload_n dX12_nights_100 hl122 ?_
                    refine q_icmp_ge 146 dX12_nights_101 (by decide) (fun h131 => ?_) (fun h131 => ?_)
                    · skip
                      refine q_iconst dX12_nights_146 (by decide) ?_
                      intro v132 h133
                      refine tr_istore dX12_nights_147 (by decide) (by decide) ?_
                      have lp144 : ∀ (fu : Nat) (ls : Nat → Option Value) (v134 : Int32) (I141 : cz_I), ls 0 = some (.ref a0) → ls 1 = some (.int x1) → ls 2 = some (.int x2) → ls 3 = some (.int x3) → ls 4 = some (.int v118) → ls 5 = some (.int v134) → St T cn K N d wi_X12_nights wr_X12_nights I0 R0 I141 R0 → 0 ≤ v134.toInt → (-v134.toInt + 2147483647).toNat < fu → Tr X mX12_nights 149 ls [] cn K N I141 R0 L0 0 0 := by
                        intro fu
                        induction fu with
                        | zero => intros; rename_i hz; exact absurd hz (Nat.not_lt_zero _)
                        | succ fu ih144 =>
                          intro ls v134 I141 hl135 hl136 hl137 hl138 hl139 hl140 hS142 g143 hm144
                          refine tr_iload dX12_nights_149 hl140 ?_
                          refine q_bipush dX12_nights_151 (by decide +kernel) ?_
                          intro v146 h147
                          refine q_icmp_ge 176 dX12_nights_153 (by decide) (fun h148 => ?_) (fun h148 => ?_)
                          · skip
                            refine tr_aload_n dX12_nights_176 hl135 ?_
                            refine tr_iload dX12_nights_177 hl139 ?_
                            refine q_callVi hE (M' := mX12_good) (as := [_]) dX12_nights_179 lk12_81 inX12_good seX12_good myX12_good (by decide) ⟨by decide, by decide⟩ rfl (kR15 hS142.1 ta0) (Nat.le_of_ble_eq_true rfl) rfl rfl (by decide) (by decide) (k_X12_good hS142.1 ta0) ?_
                            rintro v153 cn' K' N' I149 R150 L151 ⟨rfl, rfl, rfl, rfl, rfl, g152, p154, -⟩
                            have hS155 := hS142.tr g152 (by decide +kernel) (by decide +kernel)
                            obtain ⟨v156, c157⟩ : ∃ v, I149 a0 2 = v := ⟨_, rfl⟩
                            rw [c157] at p154
                            exact tr_iret hZ dX12_nights_182 rfl (by decide) (by decide) ⟨v153, rfl, rfl, rfl, rfl, rfl, rfl, hS155, (by (try rw [c157]); (try omega)), trivial⟩
                          · skip
                            refine tr_aload_n dX12_nights_156 hl135 ?_
                            refine tr_getR dX12_nights_157 fl12_17 (kR15 hS142.1 ta0) d107 ?_
                            refine tr_iload dX12_nights_160 hl140 ?_
                            refine tr_aload_n dX12_nights_162 hl135 ?_
                            obtain ⟨a158, d159, ta158⟩ := rf15_35 hW0 ta0
                            refine tr_getR dX12_nights_163 fl12_67 (kR15 hS142.1 ta0) d159 ?_
                            refine tr_iload dX12_nights_166 hl140 ?_
                            refine q_iald dX12_nights_168 (kR80 hS142.1 ta158) (ti_in (nR80 hS142.1 ta158) (by omega) (by omega)) ?_
                            intro v160 c161
                            refine q_iast dX12_nights_169 (kR77 hS142.1 ta106) (ti_in (nR77 hS142.1 ta106) (by omega) (by omega)) hS142 ta106 (iok_w (r := 80) rfl rfl (by have q := ti_nat (i := v134) (by omega); have q2 := ti_nat (i := v134) (by omega); omega) (hS142.1.iv ta158 c161)) rfl (by rfl) ?_
                            intro I163 hS164 e166 f165
                            refine q_iincE dX12_nights_170 hl140 (by decide) (by decide) (by intros; omega) ?_
                            intro v167 h168
                            refine tr_goto 149 dX12_nights_173 (by decide) ?_
                            exact ih144 _ v167 I163 hl135 hl136 hl137 hl138 hl139 rfl hS164 (by omega) (by omega)
                      exact lp144 _ _ v132 I126 hl120 hl121 hl122 hl123 hl124 rfl hS127 (by omega) (Nat.lt_succ_self _)
                    · skip
                      refine tr_aload_n dX12_nights_104 hl120 ?_
                      refine tr_getR dX12_nights_105 fl12_17 (kR15 hS127.1 ta0) d107 ?_
                      refine q_iconst dX12_nights_108 (by decide) ?_
                      intro v169 h170
                      refine q_iconst dX12_nights_109 (by decide) ?_
                      intro v171 h172
                      refine q_iast dX12_nights_110 (kR77 hS127.1 ta106) (ti_in (nR77 hS127.1 ta106) (by omega) (by omega)) hS127 ta106 (iok_w0 rfl (by omega)) rfl (by rfl) ?_
                      intro I173 hS174 e176 f175
                      rw [show v169.toNatClampNeg = 1 from ti_cl (by omega)] at e176
                      refine q_iconst dX12_nights_111 (by decide) ?_
                      intro v177 h178
                      refine tr_istore dX12_nights_112 (by decide) (by decide) ?_
                      have lp193 : ∀ (fu : Nat) (ls : Nat → Option Value) (v179 : Int32) (I187 : cz_I) (v189 : Int32), ls 0 = some (.ref a0) → ls 1 = some (.int x1) → ls 2 = some (.int x2) → ls 3 = some (.int x3) → ls 4 = some (.int v118) → ls 5 = some (.int v119) → ls 6 = some (.int v179) → St T cn K N d wi_X12_nights wr_X12_nights I0 R0 I187 R0 → I187 a106 1 = v189 → v189.toInt = v179.toInt → 0 ≤ v179.toInt → (-v179.toInt + 2147483647).toNat < fu → Tr X mX12_nights 114 ls [] cn K N I187 R0 L0 0 0 := by
                        intro fu
                        induction fu with
                        | zero => intros; rename_i hz; exact absurd hz (Nat.not_lt_zero _)
                        | succ fu ih193 =>
                          intro ls v179 I187 v189 hl180 hl181 hl182 hl183 hl184 hl185 hl186 hS188 c190 g191 g192 hm193
                          have b195 := iv77_1 hS188.1 ta106 (by decide) c190
                          refine tr_iload dX12_nights_114 hl186 ?_
                          refine tr_iload_n dX12_nights_116 hl183 ?_
                          refine q_icmp_ge 131 dX12_nights_117 (by decide) (fun h196 => ?_) (fun h196 => ?_)
                          · skip
                            refine tr_iload dX12_nights_131 hl184 ?_
                            refine tr_aload_n dX12_nights_133 hl180 ?_
                            refine q_callVi hE (M' := mX12_tonight) (as := []) dX12_nights_134 lk12_455 inX12_tonight seX12_tonight myX12_tonight (by decide) ⟨by decide, by decide⟩ rfl (kR15 hS188.1 ta0) (Nat.le_of_ble_eq_true rfl) rfl rfl (by decide) (by decide) (k_X12_tonight hS188.1 ta0 ⟨_, d2⟩) ?_
                            rintro v201 cn' K' N' I197 R198 L199 ⟨rfl, rfl, rfl, rfl, rfl, g200, -⟩
                            have hS202 := hS188.tr g200 (by decide +kernel) (by decide +kernel)
                            have c203 : I197 a106 1 = v189 := (g200.cell ta106 (by decide +kernel)).trans c190
                            refine q_iadd dX12_nights_137 ?_
                            intro v204
                            refine tr_istore dX12_nights_138 (by decide) (by decide) ?_
                            refine q_iincE dX12_nights_140 hl185 (by decide) (by decide) (by intros; omega) ?_
                            intro v205 h206
                            refine tr_goto 98 dX12_nights_143 (by decide) ?_
                            exact ih129 _ v204 v205 I197 hl180 hl181 hl182 hl183 rfl rfl hS202 (by omega) (by omega)
                          · skip
                            refine tr_aload_n dX12_nights_120 hl180 ?_
                            refine q_callVi hE (M' := mX12_draws) (as := []) dX12_nights_121 lk12_504 inX12_draws seX12_draws myX12_draws (by decide) ⟨by decide, by decide⟩ rfl (kR15 hS188.1 ta0) (Nat.le_of_ble_eq_true rfl) rfl rfl (by decide) (by decide) (k_X12_draws hS188.1 ta0 (fun q0 z0 => by obtain rfl := Option.some.inj ((d107).symm.trans z0); (try rw [c190]); (try omega)) ⟨_, d2⟩) ?_
                            rintro v211 cn' K' N' I207 R208 L209 ⟨rfl, rfl, rfl, rfl, rfl, g210, h212, p213, -⟩
                            have hS214 := hS188.tr g210 (by decide +kernel) (by decide +kernel)
                            obtain ⟨v215, c216⟩ : ∃ v, I207 a106 1 = v := ⟨_, rfl⟩
                            have b217 := iv77_1 hS214.1 ta106 (by decide) c216
                            have p218 := p213 _ d107
                            clear p213
                            rw [c216] at p218
                            rw [c190] at p218
                            refine tr_pop dX12_nights_124 rfl ?_
                            refine q_iincE dX12_nights_125 hl186 (by decide) (by decide) (by intros; omega) ?_
                            intro v219 h220
                            refine tr_goto 114 dX12_nights_128 (by decide) ?_
                            exact ih193 _ v219 I207 v215 hl180 hl181 hl182 hl183 hl184 hl185 rfl hS214 c216 (by omega) (by omega) (by omega)
                      exact lp193 _ _ v177 I173 v171 hl120 hl121 hl122 hl123 hl124 hl125 rfl hS174 e176 (by omega) (by omega) (Nat.lt_succ_self _)
                exact lp129 _ _ v114 v116 I110 hl93 hl94 hl95 hl96 rfl rfl hS111 (by omega) (Nat.lt_succ_self _)
              · skip
                refine tr_aload_n dX12_nights_65 hl93 ?_
                obtain ⟨a221, d222, ta221⟩ := rf15_35 hW0 ta0
                refine tr_getR dX12_nights_66 fl12_67 (kR15 hS99.1 ta0) d222 ?_
                refine tr_iload dX12_nights_69 hl97 ?_
                refine tr_aload_n dX12_nights_71 hl93 ?_
                obtain ⟨a223, d224, ta223⟩ := rf15_16 hW0 ta0
                refine tr_getR dX12_nights_72 fl12_17 (kR15 hS99.1 ta0) d224 ?_
                refine tr_iload dX12_nights_75 hl97 ?_
                refine q_iald dX12_nights_77 (kR77 hS99.1 ta223) (ti_in (nR77 hS99.1 ta223) (by omega) (by omega)) ?_
                intro v225 c226
                refine q_iast dX12_nights_78 (kR80 hS99.1 ta221) (ti_in (nR80 hS99.1 ta221) (by omega) (by omega)) hS99 ta221 (iok_w (r := 77) rfl rfl (by have q := ti_nat (i := v92) (by omega); have q2 := ti_nat (i := v92) (by omega); omega) (hS99.1.iv ta223 c226)) rfl (by rfl) ?_
                intro I228 hS229 e231 f230
                refine q_iincE dX12_nights_79 hl97 (by decide) (by decide) (by intros; omega) ?_
                intro v232 h233
                refine tr_goto 58 dX12_nights_82 (by decide) ?_
                exact ih101 _ v232 I228 hl93 hl94 hl95 hl96 rfl hS229 (by omega) (by omega)
          exact lp101 _ _ v90 I23 rfl rfl rfl rfl rfl hS24 (by omega) (Nat.lt_succ_self _)
        · skip
          refine tr_aload_n dX12_nights_49 rfl ?_
          refine q_iconst dX12_nights_50 (by decide) ?_
          intro v234 h235
          refine q_callVi hE (M' := mX12_lost) (as := [_]) dX12_nights_51 lk12_458 inX12_lost seX12_lost myX12_lost (by decide) ⟨by decide, by decide⟩ rfl (kR15 hS24.1 ta0) (Nat.le_of_ble_eq_true rfl) rfl rfl (by decide) (by decide) (k_X12_lost hS24.1 ta0) ?_
          rintro v240 cn' K' N' I236 R237 L238 ⟨rfl, rfl, rfl, rfl, rfl, g239, p241, -⟩
          have hS242 := hS24.tr g239 (by decide +kernel) (by decide +kernel)
          have c243 : I236 a0 0 = v21 := (g239.cell ta0 (by decide +kernel)).trans e25
          obtain ⟨v244, c245⟩ : ∃ v, I236 a0 2 = v := ⟨_, rfl⟩
          rw [c245] at p241
          exact tr_iret hZ dX12_nights_54 rfl (by decide) (by decide) ⟨v240, rfl, rfl, rfl, rfl, rfl, rfl, hS242, (by (try rw [c245]); (try omega)), trivial⟩
def wi_X12_denied : List Nat := [961, 962]
def wr_X12_denied : List Nat := []
set_option maxHeartbeats 4000000 in
theorem k_X12_denied {l : Launch} {T : Nat → Nat} {cn : Nat} {K N : Nat → Nat} {I0 : cz_I} {R0 : cz_R} {L0 : cz_L} {d : Int} (hW0 : Wf T cn K N I0 R0 d) {a0 : Nat} (ta0 : T a0 = 15) {x1 : Int32} : ConE l mX12_denied [.ref a0, .int x1] cn K N I0 R0 L0 (ca_i (fun v cn' K' N' I' R' L' => cn = cn' ∧ K = K' ∧ N = N' ∧ R0 = R' ∧ L0 = L' ∧ St T cn K N d wi_X12_denied wr_X12_denied I0 R0 I' R0 ∧ (0 ≤ v.toInt ∧ v.toInt ≤ 1) ∧ ((I' a0 2).toInt = -1) ∧ True)) := by
  refine ConE.of (by decide +kernel) rfl (Nat.le_of_ble_eq_true rfl) rfl (fun X hX hZ hE => ?_)
  subst hX
  have hS0 : St T cn K N d wi_X12_denied wr_X12_denied I0 R0 I0 R0 := St.rf0 hW0
  refine tr_aload_n dX12_denied_0 rfl ?_
  refine tr_iload_n dX12_denied_1 rfl ?_
  refine q_callVi hE (M' := mX12_refused) (as := [_]) dX12_denied_2 lk12_76 inX12_refused seX12_refused myX12_refused (by decide) ⟨by decide, by decide⟩ rfl (kR15 hS0.1 ta0) (Nat.le_of_ble_eq_true rfl) rfl rfl (by decide) (by decide) (k_X12_refused hS0.1 ta0) ?_
  rintro v5 cn' K' N' I1 R2 L3 ⟨rfl, rfl, rfl, rfl, rfl, g4, p6, -⟩
  have hS7 := hS0.tr g4 (by decide +kernel) (by decide +kernel)
  obtain ⟨v8, c9⟩ : ∃ v, I1 a0 2 = v := ⟨_, rfl⟩
  rw [c9] at p6
  refine tr_pop dX12_denied_5 rfl ?_
  refine q_iconst dX12_denied_6 (by decide) ?_
  intro v10 h11
  exact tr_zret hZ dX12_denied_7 rfl (ti_b01 (by omega) (by omega)) (by decide) (by decide) ⟨v10, rfl, rfl, rfl, rfl, rfl, rfl, hS7, (by omega), (by (try rw [c9]); (try omega)), trivial⟩
def wi_X12_keeps : List Nat := [979, 5055]
def wr_X12_keeps : List Nat := []
set_option maxHeartbeats 4000000 in
theorem k_X12_keeps {l : Launch} {T : Nat → Nat} {cn : Nat} {K N : Nat → Nat} {I0 : cz_I} {R0 : cz_R} {L0 : cz_L} {d : Int} (hW0 : Wf T cn K N I0 R0 d) {a0 : Nat} (ta0 : T a0 = 15) : ConE l mX12_keeps [.ref a0] cn K N I0 R0 L0 (ca_v (fun cn' K' N' I' R' L' => cn = cn' ∧ K = K' ∧ N = N' ∧ R0 = R' ∧ L0 = L' ∧ St T cn K N d wi_X12_keeps wr_X12_keeps I0 R0 I' R0 ∧ True)) := by
  refine ConE.of (by decide +kernel) rfl (Nat.le_of_ble_eq_true rfl) rfl (fun X hX hZ hE => ?_)
  subst hX
  have hS0 : St T cn K N d wi_X12_keeps wr_X12_keeps I0 R0 I0 R0 := St.rf0 hW0
  refine tr_aload_n dX12_keeps_0 rfl ?_
  obtain ⟨v1, c2⟩ : ∃ v, I0 a0 19 = v := ⟨_, rfl⟩
  have b3 := iv15_19 hS0.1 ta0 c2
  refine q_getI dX12_keeps_1 fl12_387 (kR15 hS0.1 ta0) c2 ?_
  refine q_bipush dX12_keeps_4 (by decide +kernel) ?_
  intro v4 h5
  refine q_icmp_ne 49 dX12_keeps_6 (by decide) (fun h6 => ?_) (fun h6 => ?_)
  · skip
    refine q_iconst dX12_keeps_49 (by decide) ?_
    intro v7 h8
    refine tr_istore_n dX12_keeps_50 (by decide) (by decide) ?_
    have lp18 : ∀ (fu : Nat) (ls : Nat → Option Value) (v9 : Int32) (I12 : cz_I) (v14 : Int32), ls 0 = some (.ref a0) → ls 1 = some (.int v9) → St T cn K N d wi_X12_keeps wr_X12_keeps I0 R0 I12 R0 → I12 a0 19 = v14 → v14.toInt ≤ 11 → 0 ≤ v9.toInt → (-v9.toInt + 2147483647).toNat < fu → Tr X mX12_keeps 51 ls [] cn K N I12 R0 L0 0 0 := by
      intro fu
      induction fu with
      | zero => intros; rename_i hz; exact absurd hz (Nat.not_lt_zero _)
      | succ fu ih18 =>
        intro ls v9 I12 v14 hl10 hl11 hS13 c15 g16 g17 hm18
        have b20 := iv15_19 hS13.1 ta0 c15
        refine tr_iload_n dX12_keeps_51 hl11 ?_
        refine q_bipush dX12_keeps_52 (by decide +kernel) ?_
        intro v21 h22
        refine q_icmp_ge 83 dX12_keeps_54 (by decide) (fun h23 => ?_) (fun h23 => ?_)
        · skip
          refine tr_aload_n dX12_keeps_83 hl10 ?_
          refine tr_dup dX12_keeps_84 rfl ?_
          refine q_getI dX12_keeps_85 fl12_387 (kR15 hS13.1 ta0) c15 ?_
          refine q_iconst dX12_keeps_88 (by decide) ?_
          intro v24 h25
          refine q_iaddE dX12_keeps_89 (by intros; omega) ?_
          intro v26 h27
          refine q_putI dX12_keeps_90 fl12_387 (kR15 hS13.1 ta0) (Or.inl rfl) hS13 ta0 (by show (0 : Int) ≤ v26.toInt ∧ v26.toInt ≤ (12 : Int); omega) rfl (by decide +kernel) ?_
          intro I28 hS29 e30 f31
          exact tr_vret hZ dX12_keeps_93 rfl (by decide) (by decide) ⟨rfl, rfl, rfl, rfl, rfl, rfl, hS29, trivial⟩
        · skip
          refine tr_aload_n dX12_keeps_57 hl10 ?_
          obtain ⟨a32, d33, ta32⟩ := rf15_17 hW0 ta0
          refine tr_getR dX12_keeps_58 fl12_21 (kR15 hS13.1 ta0) d33 ?_
          refine q_bipush dX12_keeps_61 (by decide +kernel) ?_
          intro v34 h35
          refine tr_aload_n dX12_keeps_63 hl10 ?_
          refine q_getI dX12_keeps_64 fl12_387 (kR15 hS13.1 ta0) c15 ?_
          refine q_imulE (c := 15) dX12_keeps_67 (by omega) (by omega) ?_
          intro v36 h37
          refine tr_iload_n dX12_keeps_68 hl11 ?_
          refine q_iaddE dX12_keeps_69 (by intros; omega) ?_
          intro v38 h39
          refine tr_aload_n dX12_keeps_70 hl10 ?_
          obtain ⟨a40, d41, ta40⟩ := rf15_16 hW0 ta0
          refine tr_getR dX12_keeps_71 fl12_17 (kR15 hS13.1 ta0) d41 ?_
          refine tr_iload_n dX12_keeps_74 hl11 ?_
          refine q_iald dX12_keeps_75 (kR77 hS13.1 ta40) (ti_in (nR77 hS13.1 ta40) (by omega) (by omega)) ?_
          intro v42 c43
          refine q_iast dX12_keeps_76 (kR78 hS13.1 ta32) (ti_in (nR78 hS13.1 ta32) (by omega) (by omega)) hS13 ta32 (iok_w (r := 77) rfl rfl (by have q := ti_nat (i := v38) (by omega); have q2 := ti_nat (i := v9) (by omega); omega) (hS13.1.iv ta40 c43)) rfl (by rfl) ?_
          intro I45 hS46 e48 f47
          have c49 : I45 a0 19 = v14 := (f47 _ _ (fun q => by have z := ta0; rw [q.1, ta32] at z; exact absurd z (by decide))).trans c15
          refine q_iincE dX12_keeps_77 hl11 (by decide) (by decide) (by intros; omega) ?_
          intro v50 h51
          refine tr_goto 51 dX12_keeps_80 (by decide) ?_
          exact ih18 _ v50 I45 v14 hl10 rfl hS46 c49 (by omega) (by omega) (by omega)
    exact lp18 _ _ v7 I0 v1 rfl rfl hS0 c2 (by omega) (by omega) (Nat.lt_succ_self _)
  · skip
    refine q_iconst dX12_keeps_9 (by decide) ?_
    intro v52 h53
    refine tr_istore_n dX12_keeps_10 (by decide) (by decide) ?_
    have lp63 : ∀ (fu : Nat) (ls : Nat → Option Value) (v54 : Int32) (I57 : cz_I) (v59 : Int32), ls 0 = some (.ref a0) → ls 1 = some (.int v54) → St T cn K N d wi_X12_keeps wr_X12_keeps I0 R0 I57 R0 → I57 a0 19 = v59 → v59.toInt = 12 → 0 ≤ v54.toInt → (-v54.toInt + 2147483647).toNat < fu → Tr X mX12_keeps 11 ls [] cn K N I57 R0 L0 0 0 := by
      intro fu
      induction fu with
      | zero => intros; rename_i hz; exact absurd hz (Nat.not_lt_zero _)
      | succ fu ih63 =>
        intro ls v54 I57 v59 hl55 hl56 hS58 c60 g61 g62 hm63
        have b65 := iv15_19 hS58.1 ta0 c60
        refine tr_iload_n dX12_keeps_11 hl56 ?_
        refine q_sipush dX12_keeps_12 (by decide +kernel) ?_
        intro v66 h67
        refine q_icmp_ge 39 dX12_keeps_15 (by decide) (fun h68 => ?_) (fun h68 => ?_)
        · skip
          refine tr_aload_n dX12_keeps_39 hl55 ?_
          refine tr_dup dX12_keeps_40 rfl ?_
          refine q_getI dX12_keeps_41 fl12_387 (kR15 hS58.1 ta0) c60 ?_
          refine q_iconst dX12_keeps_44 (by decide) ?_
          intro v69 h70
          refine q_isubE dX12_keeps_45 (by intros; omega) ?_
          intro v71 h72
          refine q_putI dX12_keeps_46 fl12_387 (kR15 hS58.1 ta0) (Or.inl rfl) hS58 ta0 (by show (0 : Int) ≤ v71.toInt ∧ v71.toInt ≤ (12 : Int); omega) rfl (by decide +kernel) ?_
          intro I73 hS74 e75 f76
          refine q_iconst dX12_keeps_49 (by decide) ?_
          intro v77 h78
          refine tr_istore_n dX12_keeps_50 (by decide) (by decide) ?_
          have lp88 : ∀ (fu : Nat) (ls : Nat → Option Value) (v79 : Int32) (I82 : cz_I) (v84 : Int32), ls 0 = some (.ref a0) → ls 1 = some (.int v79) → St T cn K N d wi_X12_keeps wr_X12_keeps I0 R0 I82 R0 → I82 a0 19 = v84 → v84.toInt ≤ 11 → 0 ≤ v79.toInt → (-v79.toInt + 2147483647).toNat < fu → Tr X mX12_keeps 51 ls [] cn K N I82 R0 L0 0 0 := by
            intro fu
            induction fu with
            | zero => intros; rename_i hz; exact absurd hz (Nat.not_lt_zero _)
            | succ fu ih88 =>
              intro ls v79 I82 v84 hl80 hl81 hS83 c85 g86 g87 hm88
              have b90 := iv15_19 hS83.1 ta0 c85
              refine tr_iload_n dX12_keeps_51 hl81 ?_
              refine q_bipush dX12_keeps_52 (by decide +kernel) ?_
              intro v91 h92
              refine q_icmp_ge 83 dX12_keeps_54 (by decide) (fun h93 => ?_) (fun h93 => ?_)
              · skip
                refine tr_aload_n dX12_keeps_83 hl80 ?_
                refine tr_dup dX12_keeps_84 rfl ?_
                refine q_getI dX12_keeps_85 fl12_387 (kR15 hS83.1 ta0) c85 ?_
                refine q_iconst dX12_keeps_88 (by decide) ?_
                intro v94 h95
                refine q_iaddE dX12_keeps_89 (by intros; omega) ?_
                intro v96 h97
                refine q_putI dX12_keeps_90 fl12_387 (kR15 hS83.1 ta0) (Or.inl rfl) hS83 ta0 (by show (0 : Int) ≤ v96.toInt ∧ v96.toInt ≤ (12 : Int); omega) rfl (by decide +kernel) ?_
                intro I98 hS99 e100 f101
                exact tr_vret hZ dX12_keeps_93 rfl (by decide) (by decide) ⟨rfl, rfl, rfl, rfl, rfl, rfl, hS99, trivial⟩
              · skip
                refine tr_aload_n dX12_keeps_57 hl80 ?_
                obtain ⟨a102, d103, ta102⟩ := rf15_17 hW0 ta0
                refine tr_getR dX12_keeps_58 fl12_21 (kR15 hS83.1 ta0) d103 ?_
                refine q_bipush dX12_keeps_61 (by decide +kernel) ?_
                intro v104 h105
                refine tr_aload_n dX12_keeps_63 hl80 ?_
                refine q_getI dX12_keeps_64 fl12_387 (kR15 hS83.1 ta0) c85 ?_
                refine q_imulE (c := 15) dX12_keeps_67 (by omega) (by omega) ?_
                intro v106 h107
                refine tr_iload_n dX12_keeps_68 hl81 ?_
                refine q_iaddE dX12_keeps_69 (by intros; omega) ?_
                intro v108 h109
                refine tr_aload_n dX12_keeps_70 hl80 ?_
                obtain ⟨a110, d111, ta110⟩ := rf15_16 hW0 ta0
                refine tr_getR dX12_keeps_71 fl12_17 (kR15 hS83.1 ta0) d111 ?_
                refine tr_iload_n dX12_keeps_74 hl81 ?_
                refine q_iald dX12_keeps_75 (kR77 hS83.1 ta110) (ti_in (nR77 hS83.1 ta110) (by omega) (by omega)) ?_
                intro v112 c113
                refine q_iast dX12_keeps_76 (kR78 hS83.1 ta102) (ti_in (nR78 hS83.1 ta102) (by omega) (by omega)) hS83 ta102 (iok_w (r := 77) rfl rfl (by have q := ti_nat (i := v108) (by omega); have q2 := ti_nat (i := v79) (by omega); omega) (hS83.1.iv ta110 c113)) rfl (by rfl) ?_
                intro I115 hS116 e118 f117
                have c119 : I115 a0 19 = v84 := (f117 _ _ (fun q => by have z := ta0; rw [q.1, ta102] at z; exact absurd z (by decide))).trans c85
                refine q_iincE dX12_keeps_77 hl81 (by decide) (by decide) (by intros; omega) ?_
                intro v120 h121
                refine tr_goto 51 dX12_keeps_80 (by decide) ?_
                exact ih88 _ v120 I115 v84 hl80 rfl hS116 c119 (by omega) (by omega) (by omega)
          exact lp88 _ _ v77 I73 v71 hl55 rfl hS74 e75 (by omega) (by omega) (Nat.lt_succ_self _)
        · skip
          refine tr_aload_n dX12_keeps_18 hl55 ?_
          obtain ⟨a122, d123, ta122⟩ := rf15_17 hW0 ta0
          refine tr_getR dX12_keeps_19 fl12_21 (kR15 hS58.1 ta0) d123 ?_
          refine tr_iload_n dX12_keeps_22 hl56 ?_
          refine tr_aload_n dX12_keeps_23 hl55 ?_
          refine tr_getR dX12_keeps_24 fl12_21 (kR15 hS58.1 ta0) d123 ?_
          refine tr_iload_n dX12_keeps_27 hl56 ?_
          refine q_bipush dX12_keeps_28 (by decide +kernel) ?_
          intro v124 h125
          refine q_iaddE dX12_keeps_30 (by intros; omega) ?_
          intro v126 h127
          refine q_iald dX12_keeps_31 (kR78 hS58.1 ta122) (ti_in (nR78 hS58.1 ta122) (by omega) (by omega)) ?_
          intro v128 c129
          refine q_iast dX12_keeps_32 (kR78 hS58.1 ta122) (ti_in (nR78 hS58.1 ta122) (by omega) (by omega)) hS58 ta122 (iok_w (r := 78) rfl rfl (by have q := ti_nat (i := v54) (by omega); have q2 := ti_nat (i := v126) (by omega); omega) (hS58.1.iv ta122 c129)) rfl (by rfl) ?_
          intro I131 hS132 e134 f133
          have c135 : I131 a0 19 = v59 := (f133 _ _ (fun q => by have z := ta0; rw [q.1, ta122] at z; exact absurd z (by decide))).trans c60
          refine q_iincE dX12_keeps_33 hl56 (by decide) (by decide) (by intros; omega) ?_
          intro v136 h137
          refine tr_goto 11 dX12_keeps_36 (by decide) ?_
          exact ih63 _ v136 I131 v59 hl55 rfl hS132 c135 (by omega) (by omega) (by omega)
    exact lp63 _ _ v52 I0 v1 rfl rfl hS0 c2 (by omega) (by omega) (Nat.lt_succ_self _)
def wi_X12_granted : List Nat := [961, 962]
def wr_X12_granted : List Nat := []
set_option maxHeartbeats 4000000 in
theorem k_X12_granted {l : Launch} {T : Nat → Nat} {cn : Nat} {K N : Nat → Nat} {I0 : cz_I} {R0 : cz_R} {L0 : cz_L} {d : Int} (hW0 : Wf T cn K N I0 R0 d) {a0 : Nat} (ta0 : T a0 = 15) : ConE l mX12_granted [.ref a0] cn K N I0 R0 L0 (ca_i (fun v cn' K' N' I' R' L' => cn = cn' ∧ K = K' ∧ N = N' ∧ R0 = R' ∧ L0 = L' ∧ St T cn K N d wi_X12_granted wr_X12_granted I0 R0 I' R0 ∧ (0 ≤ v.toInt ∧ v.toInt ≤ 1) ∧ ((I' a0 2).toInt = -1) ∧ True)) := by
  refine ConE.of (by decide +kernel) rfl (Nat.le_of_ble_eq_true rfl) rfl (fun X hX hZ hE => ?_)
  subst hX
  have hS0 : St T cn K N d wi_X12_granted wr_X12_granted I0 R0 I0 R0 := St.rf0 hW0
  refine tr_aload_n dX12_granted_0 rfl ?_
  refine q_iconst dX12_granted_1 (by decide) ?_
  intro v1 h2
  refine q_callVi hE (M' := mX12_good) (as := [_]) dX12_granted_2 lk12_81 inX12_good seX12_good myX12_good (by decide) ⟨by decide, by decide⟩ rfl (kR15 hS0.1 ta0) (Nat.le_of_ble_eq_true rfl) rfl rfl (by decide) (by decide) (k_X12_good hS0.1 ta0) ?_
  rintro v7 cn' K' N' I3 R4 L5 ⟨rfl, rfl, rfl, rfl, rfl, g6, p8, -⟩
  have hS9 := hS0.tr g6 (by decide +kernel) (by decide +kernel)
  obtain ⟨v10, c11⟩ : ∃ v, I3 a0 2 = v := ⟨_, rfl⟩
  rw [c11] at p8
  refine tr_pop dX12_granted_5 rfl ?_
  refine q_iconst dX12_granted_6 (by decide) ?_
  intro v12 h13
  exact tr_zret hZ dX12_granted_7 rfl (ti_b01 (by omega) (by omega)) (by decide) (by decide) ⟨v12, rfl, rfl, rfl, rfl, rfl, rfl, hS9, (by omega), (by (try rw [c11]); (try omega)), trivial⟩
def wi_X12_call : List Nat := [960, 961, 962, 979, 4991, 5055]
def wr_X12_call : List Nat := []
set_option maxHeartbeats 4000000 in
theorem k_X12_call {l : Launch} {T : Nat → Nat} {cn : Nat} {K N : Nat → Nat} {I0 : cz_I} {R0 : cz_R} {L0 : cz_L} {d : Int} (hW0 : Wf T cn K N I0 R0 d) {a0 : Nat} (ta0 : T a0 = 15) {x1 : Int32} {x2 : Int32} : ConE l mX12_call [.ref a0, .int x1, .int x2] cn K N I0 R0 L0 (ca_i (fun v cn' K' N' I' R' L' => cn = cn' ∧ K = K' ∧ N = N' ∧ R0 = R' ∧ L0 = L' ∧ St T cn K N d wi_X12_call wr_X12_call I0 R0 I' R0 ∧ (0 ≤ v.toInt ∧ v.toInt ≤ 1) ∧ ((I' a0 2).toInt = -1) ∧ True)) := by
  refine ConE.of (by decide +kernel) rfl (Nat.le_of_ble_eq_true rfl) rfl (fun X hX hZ hE => ?_)
  subst hX
  have hS0 : St T cn K N d wi_X12_call wr_X12_call I0 R0 I0 R0 := St.rf0 hW0
  rcases rf15_3 hW0 ta0 with d2 | ⟨a1, d2, ta1⟩
  · skip
    refine tr_aload_n dX12_call_0 rfl ?_
    refine q_iconst dX12_call_1 (by decide) ?_
    intro v3 h4
    refine q_putI dX12_call_2 fl12_70 (kR15 hS0.1 ta0) (Or.inl rfl) hS0 ta0 (iokF rfl) rfl (by decide +kernel) ?_
    intro I5 hS6 e7 f8
    refine tr_aload_n dX12_call_5 rfl ?_
    refine tr_getN dX12_call_6 fl12_385 (kR15 hS6.1 ta0) d2 ?_
    refine tr_ifnullN 27 dX12_call_9 (by decide) ?_
    refine tr_aload_n dX12_call_27 rfl ?_
    refine q_iconst dX12_call_28 (by decide) ?_
    intro v9 h10
    refine q_callVi hE (M' := mX12_denied) (as := [_]) dX12_call_29 lk12_507 inX12_denied seX12_denied myX12_denied (by decide) ⟨by decide, by decide⟩ rfl (kR15 hS6.1 ta0) (Nat.le_of_ble_eq_true rfl) rfl rfl (by decide) (by decide) (k_X12_denied hS6.1 ta0) ?_
    rintro v15 cn' K' N' I11 R12 L13 ⟨rfl, rfl, rfl, rfl, rfl, g14, h16, p17, -⟩
    have hS18 := hS6.tr g14 (by decide +kernel) (by decide +kernel)
    have c19 : I11 a0 0 = v3 := (g14.cell ta0 (by decide +kernel)).trans e7
    obtain ⟨v20, c21⟩ : ∃ v, I11 a0 2 = v := ⟨_, rfl⟩
    rw [c21] at p17
    exact tr_zret hZ dX12_call_32 rfl (ti_b01 (by omega) (by omega)) (by decide) (by decide) ⟨v15, rfl, rfl, rfl, rfl, rfl, rfl, hS18, (by omega), (by (try rw [c21]); (try omega)), trivial⟩
  · skip
    refine tr_aload_n dX12_call_0 rfl ?_
    refine q_iconst dX12_call_1 (by decide) ?_
    intro v22 h23
    refine q_putI dX12_call_2 fl12_70 (kR15 hS0.1 ta0) (Or.inl rfl) hS0 ta0 (iokF rfl) rfl (by decide +kernel) ?_
    intro I24 hS25 e26 f27
    refine tr_aload_n dX12_call_5 rfl ?_
    refine tr_getR dX12_call_6 fl12_385 (kR15 hS25.1 ta0) d2 ?_
    refine tr_ifnull dX12_call_9 ?_
    refine tr_iload_n dX12_call_12 rfl ?_
    refine q_if_lt 27 dX12_call_13 (by decide) (fun h28 => ?_) (fun h28 => ?_)
    · skip
      refine tr_aload_n dX12_call_27 rfl ?_
      refine q_iconst dX12_call_28 (by decide) ?_
      intro v29 h30
      refine q_callVi hE (M' := mX12_denied) (as := [_]) dX12_call_29 lk12_507 inX12_denied seX12_denied myX12_denied (by decide) ⟨by decide, by decide⟩ rfl (kR15 hS25.1 ta0) (Nat.le_of_ble_eq_true rfl) rfl rfl (by decide) (by decide) (k_X12_denied hS25.1 ta0) ?_
      rintro v35 cn' K' N' I31 R32 L33 ⟨rfl, rfl, rfl, rfl, rfl, g34, h36, p37, -⟩
      have hS38 := hS25.tr g34 (by decide +kernel) (by decide +kernel)
      have c39 : I31 a0 0 = v22 := (g34.cell ta0 (by decide +kernel)).trans e26
      obtain ⟨v40, c41⟩ : ∃ v, I31 a0 2 = v := ⟨_, rfl⟩
      rw [c41] at p37
      exact tr_zret hZ dX12_call_32 rfl (ti_b01 (by omega) (by omega)) (by decide) (by decide) ⟨v35, rfl, rfl, rfl, rfl, rfl, rfl, hS38, (by omega), (by (try rw [c41]); (try omega)), trivial⟩
    · skip
      refine tr_iload_n dX12_call_16 rfl ?_
      refine tr_aload_n dX12_call_17 rfl ?_
      refine tr_getR dX12_call_18 fl12_385 (kR15 hS25.1 ta0) d2 ?_
      obtain ⟨v42, c43⟩ : ∃ v, I0 a1 5 = v := ⟨_, rfl⟩
      have b44 := iv14_5 hW0 ta1 c43
      refine q_getI dX12_call_21 fl12_349 (kR14 hS25.1 ta1) ((hS25.cell ta1 (by decide +kernel)).trans c43) ?_
      refine q_icmp_lt 33 dX12_call_24 (by decide) (fun h45 => ?_) (fun h45 => ?_)
      · skip
        refine tr_aload_n dX12_call_33 rfl ?_
        obtain ⟨a46, d47, ta46⟩ := rf15_16 hW0 ta0
        refine tr_getR dX12_call_34 fl12_17 (kR15 hS25.1 ta0) d47 ?_
        refine q_iconst dX12_call_37 (by decide) ?_
        intro v48 h49
        obtain ⟨v50, c51⟩ : ∃ v, I24 a46 0 = v := ⟨_, rfl⟩
        refine q_iald dX12_call_38 (kR77 hS25.1 ta46) (ti_in (nR77 hS25.1 ta46) (by omega) (by omega)) ?_
        intro v52 c53
        rw [show v48.toNatClampNeg = 0 from ti_cl (by omega)] at c53
        obtain rfl : v50 = v52 := (c51).symm.trans c53
        refine tr_iload_n dX12_call_39 rfl ?_
        refine q_callSi hE (M' := mX12_has) (as := [_, _]) dX12_call_40 lk12_329 inX12_has myX12_has ⟨by decide, by decide⟩ rfl (Nat.le_of_ble_eq_true rfl) rfl rfl (by decide) (by decide) (k_X12_has hS25.1 ) ?_
        rintro v58 cn' K' N' I54 R55 L56 ⟨rfl, rfl, rfl, rfl, rfl, rfl, h59, -⟩
        refine tr_iload_n dX12_call_43 rfl ?_
        refine q_icmp_ne 53 dX12_call_44 (by decide) (fun h60 => ?_) (fun h60 => ?_)
        · skip
          refine tr_aload_n dX12_call_53 rfl ?_
          refine q_callVv hE (M' := mX12_keeps) (as := []) dX12_call_54 lk12_510 inX12_keeps seX12_keeps myX12_keeps (by decide) ⟨by decide, by decide⟩ rfl (kR15 hS25.1 ta0) (Nat.le_of_ble_eq_true rfl) rfl rfl (by decide) (by decide) (k_X12_keeps hS25.1 ta0) ?_
          rintro cn' K' N' I61 R62 L63 ⟨rfl, rfl, rfl, rfl, rfl, g64, -⟩
          have hS66 := hS25.tr g64 (by decide +kernel) (by decide +kernel)
          have c67 : I61 a0 0 = v22 := (g64.cell ta0 (by decide +kernel)).trans e26
          have c68 : I61 a46 0 = v50 := (g64.cell ta46 (by decide +kernel)).trans c51
          refine tr_aload_n dX12_call_57 rfl ?_
          refine tr_getR dX12_call_58 fl12_17 (kR15 hS66.1 ta0) d47 ?_
          refine q_iconst dX12_call_61 (by decide) ?_
          intro v69 h70
          refine tr_dup2 dX12_call_62 rfl rfl ?_
          refine q_iald dX12_call_63 (kR77 hS66.1 ta46) (ti_in (nR77 hS66.1 ta46) (by omega) (by omega)) ?_
          intro v71 c72
          rw [show v69.toNatClampNeg = 0 from ti_cl (by omega)] at c72
          obtain rfl : v50 = v71 := (c68).symm.trans c72
          refine q_iconst dX12_call_64 (by decide) ?_
          intro v73 h74
          refine tr_iload_n dX12_call_65 rfl ?_
          refine q_ishlE dX12_call_66 (by omega) (by omega) ?_
          intro v75 h76
          refine q_ixor dX12_call_67 ?_
          intro v77
          refine q_iast dX12_call_68 (kR77 hS66.1 ta46) (ti_in (nR77 hS66.1 ta46) (by omega) (by omega)) hS66 ta46 (iok_wF rfl (by have q := ti_nat (i := v69) (by omega); omega)) rfl (by rfl) ?_
          intro I78 hS79 e81 f80
          have c82 : I78 a0 0 = v22 := (f80 _ _ (fun q => by have z := ta0; rw [q.1, ta46] at z; exact absurd z (by decide))).trans c67
          rw [show v69.toNatClampNeg = 0 from ti_cl (by omega)] at e81
          refine tr_aload_n dX12_call_69 rfl ?_
          refine q_callVi hE (M' := mX12_granted) (as := []) dX12_call_70 lk12_513 inX12_granted seX12_granted myX12_granted (by decide) ⟨by decide, by decide⟩ rfl (kR15 hS79.1 ta0) (Nat.le_of_ble_eq_true rfl) rfl rfl (by decide) (by decide) (k_X12_granted hS79.1 ta0) ?_
          rintro v87 cn' K' N' I83 R84 L85 ⟨rfl, rfl, rfl, rfl, rfl, g86, h88, p89, -⟩
          have hS90 := hS79.tr g86 (by decide +kernel) (by decide +kernel)
          have c91 : I83 a0 0 = v22 := (g86.cell ta0 (by decide +kernel)).trans c82
          have c92 : I83 a46 0 = v77 := (g86.cell ta46 (by decide +kernel)).trans e81
          obtain ⟨v93, c94⟩ : ∃ v, I83 a0 2 = v := ⟨_, rfl⟩
          rw [c94] at p89
          exact tr_zret hZ dX12_call_73 rfl (ti_b01 (by omega) (by omega)) (by decide) (by decide) ⟨v87, rfl, rfl, rfl, rfl, rfl, rfl, hS90, (by omega), (by (try rw [c94]); (try omega)), trivial⟩
        · skip
          refine tr_aload_n dX12_call_47 rfl ?_
          refine q_iconst dX12_call_48 (by decide) ?_
          intro v95 h96
          refine q_callVi hE (M' := mX12_denied) (as := [_]) dX12_call_49 lk12_507 inX12_denied seX12_denied myX12_denied (by decide) ⟨by decide, by decide⟩ rfl (kR15 hS25.1 ta0) (Nat.le_of_ble_eq_true rfl) rfl rfl (by decide) (by decide) (k_X12_denied hS25.1 ta0) ?_
          rintro v101 cn' K' N' I97 R98 L99 ⟨rfl, rfl, rfl, rfl, rfl, g100, h102, p103, -⟩
          have hS104 := hS25.tr g100 (by decide +kernel) (by decide +kernel)
          have c105 : I97 a0 0 = v22 := (g100.cell ta0 (by decide +kernel)).trans e26
          have c106 : I97 a46 0 = v50 := (g100.cell ta46 (by decide +kernel)).trans c51
          obtain ⟨v107, c108⟩ : ∃ v, I97 a0 2 = v := ⟨_, rfl⟩
          rw [c108] at p103
          exact tr_zret hZ dX12_call_52 rfl (ti_b01 (by omega) (by omega)) (by decide) (by decide) ⟨v101, rfl, rfl, rfl, rfl, rfl, rfl, hS104, (by omega), (by (try rw [c108]); (try omega)), trivial⟩
      · skip
        refine tr_aload_n dX12_call_27 rfl ?_
        refine q_iconst dX12_call_28 (by decide) ?_
        intro v109 h110
        refine q_callVi hE (M' := mX12_denied) (as := [_]) dX12_call_29 lk12_507 inX12_denied seX12_denied myX12_denied (by decide) ⟨by decide, by decide⟩ rfl (kR15 hS25.1 ta0) (Nat.le_of_ble_eq_true rfl) rfl rfl (by decide) (by decide) (k_X12_denied hS25.1 ta0) ?_
        rintro v115 cn' K' N' I111 R112 L113 ⟨rfl, rfl, rfl, rfl, rfl, g114, h116, p117, -⟩
        have hS118 := hS25.tr g114 (by decide +kernel) (by decide +kernel)
        have c119 : I111 a0 0 = v22 := (g114.cell ta0 (by decide +kernel)).trans e26
        obtain ⟨v120, c121⟩ : ∃ v, I111 a0 2 = v := ⟨_, rfl⟩
        rw [c121] at p117
        exact tr_zret hZ dX12_call_32 rfl (ti_b01 (by omega) (by omega)) (by decide) (by decide) ⟨v115, rfl, rfl, rfl, rfl, rfl, rfl, hS118, (by omega), (by (try rw [c121]); (try omega)), trivial⟩
def wi_X12_calls : List Nat := [960, 961, 962]
def wr_X12_calls : List Nat := []
set_option maxHeartbeats 4000000 in
theorem k_X12_calls {l : Launch} {T : Nat → Nat} {cn : Nat} {K N : Nat → Nat} {I0 : cz_I} {R0 : cz_R} {L0 : cz_L} {d : Int} (hW0 : Wf T cn K N I0 R0 d) {a0 : Nat} (ta0 : T a0 = 15) : ConE l mX12_calls [.ref a0] cn K N I0 R0 L0 (ca_i (fun v cn' K' N' I' R' L' => cn = cn' ∧ K = K' ∧ N = N' ∧ R0 = R' ∧ L0 = L' ∧ St T cn K N d wi_X12_calls wr_X12_calls I0 R0 I' R0 ∧ ((I' a0 2).toInt = -1) ∧ True)) := by
  refine ConE.of (by decide +kernel) rfl (Nat.le_of_ble_eq_true rfl) rfl (fun X hX hZ hE => ?_)
  subst hX
  have hS0 : St T cn K N d wi_X12_calls wr_X12_calls I0 R0 I0 R0 := St.rf0 hW0
  rcases rf15_3 hW0 ta0 with d2 | ⟨a1, d2, ta1⟩
  · skip
    refine tr_aload_n dX12_calls_0 rfl ?_
    refine q_iconst dX12_calls_1 (by decide) ?_
    intro v3 h4
    refine q_putI dX12_calls_2 fl12_70 (kR15 hS0.1 ta0) (Or.inl rfl) hS0 ta0 (iokF rfl) rfl (by decide +kernel) ?_
    intro I5 hS6 e7 f8
    refine tr_aload_n dX12_calls_5 rfl ?_
    refine tr_getN dX12_calls_6 fl12_385 (kR15 hS6.1 ta0) d2 ?_
    refine tr_ifnonnullN dX12_calls_9 ?_
    refine tr_aload_n dX12_calls_12 rfl ?_
    refine q_iconst dX12_calls_13 (by decide) ?_
    intro v9 h10
    refine q_callVi hE (M' := mX12_refused) (as := [_]) dX12_calls_14 lk12_76 inX12_refused seX12_refused myX12_refused (by decide) ⟨by decide, by decide⟩ rfl (kR15 hS6.1 ta0) (Nat.le_of_ble_eq_true rfl) rfl rfl (by decide) (by decide) (k_X12_refused hS6.1 ta0) ?_
    rintro v15 cn' K' N' I11 R12 L13 ⟨rfl, rfl, rfl, rfl, rfl, g14, p16, -⟩
    have hS17 := hS6.tr g14 (by decide +kernel) (by decide +kernel)
    have c18 : I11 a0 0 = v3 := (g14.cell ta0 (by decide +kernel)).trans e7
    obtain ⟨v19, c20⟩ : ∃ v, I11 a0 2 = v := ⟨_, rfl⟩
    rw [c20] at p16
    refine tr_goto 30 dX12_calls_17 (by decide) ?_
    exact tr_iret hZ dX12_calls_30 rfl (by decide) (by decide) ⟨v15, rfl, rfl, rfl, rfl, rfl, rfl, hS17, (by (try rw [c20]); (try omega)), trivial⟩
  · skip
    refine tr_aload_n dX12_calls_0 rfl ?_
    refine q_iconst dX12_calls_1 (by decide) ?_
    intro v21 h22
    refine q_putI dX12_calls_2 fl12_70 (kR15 hS0.1 ta0) (Or.inl rfl) hS0 ta0 (iokF rfl) rfl (by decide +kernel) ?_
    intro I23 hS24 e25 f26
    refine tr_aload_n dX12_calls_5 rfl ?_
    refine tr_getR dX12_calls_6 fl12_385 (kR15 hS24.1 ta0) d2 ?_
    refine tr_ifnonnull 20 dX12_calls_9 (by decide) ?_
    refine tr_aload_n dX12_calls_20 rfl ?_
    refine tr_aload_n dX12_calls_21 rfl ?_
    obtain ⟨a27, d28, ta27⟩ := rf15_16 hW0 ta0
    refine tr_getR dX12_calls_22 fl12_17 (kR15 hS24.1 ta0) d28 ?_
    refine q_iconst dX12_calls_25 (by decide) ?_
    intro v29 h30
    obtain ⟨v31, c32⟩ : ∃ v, I0 a27 0 = v := ⟨_, rfl⟩
    refine q_iald dX12_calls_26 (kR77 hS24.1 ta27) (ti_in (nR77 hS24.1 ta27) (by omega) (by omega)) ?_
    intro v33 c34
    rw [show v29.toNatClampNeg = 0 from ti_cl (by omega)] at c34
    obtain rfl : v31 = v33 := (((hS24.cell ta27 (by decide +kernel)).trans c32)).symm.trans c34
    refine q_callVi hE (M' := mX12_good) (as := [_]) dX12_calls_27 lk12_81 inX12_good seX12_good myX12_good (by decide) ⟨by decide, by decide⟩ rfl (kR15 hS24.1 ta0) (Nat.le_of_ble_eq_true rfl) rfl rfl (by decide) (by decide) (k_X12_good hS24.1 ta0) ?_
    rintro v39 cn' K' N' I35 R36 L37 ⟨rfl, rfl, rfl, rfl, rfl, g38, p40, -⟩
    have hS41 := hS24.tr g38 (by decide +kernel) (by decide +kernel)
    have c42 : I35 a0 0 = v21 := (g38.cell ta0 (by decide +kernel)).trans e25
    obtain ⟨v43, c44⟩ : ∃ v, I35 a0 2 = v := ⟨_, rfl⟩
    rw [c44] at p40
    exact tr_iret hZ dX12_calls_30 rfl (by decide) (by decide) ⟨v39, rfl, rfl, rfl, rfl, rfl, rfl, hS41, (by (try rw [c44]); (try omega)), trivial⟩
def wi_X12_cloud : List Nat := [960, 961, 962, 979, 4991, 5055]
def wr_X12_cloud : List Nat := []
set_option maxHeartbeats 4000000 in
theorem k_X12_cloud {l : Launch} {T : Nat → Nat} {cn : Nat} {K N : Nat → Nat} {I0 : cz_I} {R0 : cz_R} {L0 : cz_L} {d : Int} (hW0 : Wf T cn K N I0 R0 d) {a0 : Nat} (ta0 : T a0 = 15) {x1 : Int32} {x2 : Int32} : ConE l mX12_cloud [.ref a0, .int x1, .int x2] cn K N I0 R0 L0 (ca_i (fun v cn' K' N' I' R' L' => cn = cn' ∧ K = K' ∧ N = N' ∧ R0 = R' ∧ L0 = L' ∧ St T cn K N d wi_X12_cloud wr_X12_cloud I0 R0 I' R0 ∧ (0 ≤ v.toInt ∧ v.toInt ≤ 1) ∧ ((I' a0 2).toInt = -1) ∧ True)) := by
  refine ConE.of (by decide +kernel) rfl (Nat.le_of_ble_eq_true rfl) rfl (fun X hX hZ hE => ?_)
  subst hX
  have hS0 : St T cn K N d wi_X12_cloud wr_X12_cloud I0 R0 I0 R0 := St.rf0 hW0
  rcases rf15_3 hW0 ta0 with d2 | ⟨a1, d2, ta1⟩
  · skip
    refine tr_aload_n dX12_cloud_0 rfl ?_
    refine q_iconst dX12_cloud_1 (by decide) ?_
    intro v3 h4
    refine q_putI dX12_cloud_2 fl12_70 (kR15 hS0.1 ta0) (Or.inl rfl) hS0 ta0 (iokF rfl) rfl (by decide +kernel) ?_
    intro I5 hS6 e7 f8
    refine tr_aload_n dX12_cloud_5 rfl ?_
    refine tr_getN dX12_cloud_6 fl12_385 (kR15 hS6.1 ta0) d2 ?_
    refine tr_ifnonnullN dX12_cloud_9 ?_
    refine tr_aload_n dX12_cloud_12 rfl ?_
    refine q_iconst dX12_cloud_13 (by decide) ?_
    intro v9 h10
    refine q_callVi hE (M' := mX12_denied) (as := [_]) dX12_cloud_14 lk12_507 inX12_denied seX12_denied myX12_denied (by decide) ⟨by decide, by decide⟩ rfl (kR15 hS6.1 ta0) (Nat.le_of_ble_eq_true rfl) rfl rfl (by decide) (by decide) (k_X12_denied hS6.1 ta0) ?_
    rintro v15 cn' K' N' I11 R12 L13 ⟨rfl, rfl, rfl, rfl, rfl, g14, h16, p17, -⟩
    have hS18 := hS6.tr g14 (by decide +kernel) (by decide +kernel)
    have c19 : I11 a0 0 = v3 := (g14.cell ta0 (by decide +kernel)).trans e7
    obtain ⟨v20, c21⟩ : ∃ v, I11 a0 2 = v := ⟨_, rfl⟩
    rw [c21] at p17
    exact tr_zret hZ dX12_cloud_17 rfl (ti_b01 (by omega) (by omega)) (by decide) (by decide) ⟨v15, rfl, rfl, rfl, rfl, rfl, rfl, hS18, (by omega), (by (try rw [c21]); (try omega)), trivial⟩
  · skip
    refine tr_aload_n dX12_cloud_0 rfl ?_
    refine q_iconst dX12_cloud_1 (by decide) ?_
    intro v22 h23
    refine q_putI dX12_cloud_2 fl12_70 (kR15 hS0.1 ta0) (Or.inl rfl) hS0 ta0 (iokF rfl) rfl (by decide +kernel) ?_
    intro I24 hS25 e26 f27
    refine tr_aload_n dX12_cloud_5 rfl ?_
    refine tr_getR dX12_cloud_6 fl12_385 (kR15 hS25.1 ta0) d2 ?_
    refine tr_ifnonnull 18 dX12_cloud_9 (by decide) ?_
    refine tr_aload_n dX12_cloud_18 rfl ?_
    refine tr_iload_n dX12_cloud_19 rfl ?_
    refine q_callVi hE (M' := mX12_isMinute) (as := [_]) dX12_cloud_20 lk12_443 inX12_isMinute seX12_isMinute myX12_isMinute (by decide) ⟨by decide, by decide⟩ rfl (kR15 hS25.1 ta0) (Nat.le_of_ble_eq_true rfl) rfl rfl (by decide) (by decide) (k_X12_isMinute hS25.1 ta0 ⟨_, d2⟩) ?_
    rintro v32 cn' K' N' I28 R29 L30 ⟨rfl, rfl, rfl, rfl, rfl, rfl, h33, p34, -⟩
    refine q_if_eq 43 dX12_cloud_23 (by decide) (fun h35 => ?_) (fun h35 => ?_)
    · skip
      refine tr_aload_n dX12_cloud_43 rfl ?_
      refine q_iconst dX12_cloud_44 (by decide) ?_
      intro v36 h37
      refine q_callVi hE (M' := mX12_denied) (as := [_]) dX12_cloud_45 lk12_507 inX12_denied seX12_denied myX12_denied (by decide) ⟨by decide, by decide⟩ rfl (kR15 hS25.1 ta0) (Nat.le_of_ble_eq_true rfl) rfl rfl (by decide) (by decide) (k_X12_denied hS25.1 ta0) ?_
      rintro v42 cn' K' N' I38 R39 L40 ⟨rfl, rfl, rfl, rfl, rfl, g41, h43, p44, -⟩
      have hS45 := hS25.tr g41 (by decide +kernel) (by decide +kernel)
      have c46 : I38 a0 0 = v22 := (g41.cell ta0 (by decide +kernel)).trans e26
      obtain ⟨v47, c48⟩ : ∃ v, I38 a0 2 = v := ⟨_, rfl⟩
      rw [c48] at p44
      exact tr_zret hZ dX12_cloud_48 rfl (ti_b01 (by omega) (by omega)) (by decide) (by decide) ⟨v42, rfl, rfl, rfl, rfl, rfl, rfl, hS45, (by omega), (by (try rw [c48]); (try omega)), trivial⟩
    · skip
      refine tr_iload_n dX12_cloud_26 rfl ?_
      refine tr_iload_n dX12_cloud_27 rfl ?_
      refine q_iconst dX12_cloud_28 (by decide) ?_
      intro v49 h50
      refine q_iaddE dX12_cloud_29 (by intros; omega) ?_
      intro v51 h52
      refine tr_aload_n dX12_cloud_30 rfl ?_
      refine tr_getR dX12_cloud_31 fl12_385 (kR15 hS25.1 ta0) d2 ?_
      obtain ⟨v53, c54⟩ : ∃ v, I0 a1 0 = v := ⟨_, rfl⟩
      have b55 := hW0.2.2.2.2.2.1 a0 ta0 _ d2
      rw [c54] at b55
      have b56 := iv14_0 hW0 ta1 c54
      refine q_getI dX12_cloud_34 fl12_192 (kR14 hS25.1 ta1) ((hS25.cell ta1 (by decide +kernel)).trans c54) ?_
      refine q_callSi hE (M' := mX12_in) (as := [_, _, _]) dX12_cloud_37 lk12_149 inX12_in myX12_in ⟨by decide, by decide⟩ rfl (Nat.le_of_ble_eq_true rfl) rfl rfl (by decide) (by decide) (k_X12_in hS25.1 ) ?_
      rintro v61 cn' K' N' I57 R58 L59 ⟨rfl, rfl, rfl, rfl, rfl, rfl, h62, p63, p64, -⟩
      refine q_if_ne 49 dX12_cloud_40 (by decide) (fun h65 => ?_) (fun h65 => ?_)
      · skip
        refine tr_aload_n dX12_cloud_49 rfl ?_
        obtain ⟨a66, d67, ta66⟩ := rf15_16 hW0 ta0
        refine tr_getR dX12_cloud_50 fl12_17 (kR15 hS25.1 ta0) d67 ?_
        refine q_iconst dX12_cloud_53 (by decide) ?_
        intro v68 h69
        obtain ⟨v70, c71⟩ : ∃ v, I24 a66 1 = v := ⟨_, rfl⟩
        have b72 := iv77_1 hS25.1 ta66 (by decide) c71
        refine q_iald dX12_cloud_54 (kR77 hS25.1 ta66) (ti_in (nR77 hS25.1 ta66) (by omega) (by omega)) ?_
        intro v73 c74
        rw [show v68.toNatClampNeg = 1 from ti_cl (by omega)] at c74
        obtain rfl : v70 = v73 := (c71).symm.trans c74
        refine q_bipush dX12_cloud_55 (by decide +kernel) ?_
        intro v75 h76
        refine q_icmp_ne 66 dX12_cloud_57 (by decide) (fun h77 => ?_) (fun h77 => ?_)
        · skip
          refine tr_aload_n dX12_cloud_66 rfl ?_
          refine q_callVv hE (M' := mX12_keeps) (as := []) dX12_cloud_67 lk12_510 inX12_keeps seX12_keeps myX12_keeps (by decide) ⟨by decide, by decide⟩ rfl (kR15 hS25.1 ta0) (Nat.le_of_ble_eq_true rfl) rfl rfl (by decide) (by decide) (k_X12_keeps hS25.1 ta0) ?_
          rintro cn' K' N' I78 R79 L80 ⟨rfl, rfl, rfl, rfl, rfl, g81, -⟩
          have hS83 := hS25.tr g81 (by decide +kernel) (by decide +kernel)
          have c84 : I78 a0 0 = v22 := (g81.cell ta0 (by decide +kernel)).trans e26
          have c85 : I78 a66 1 = v70 := (g81.cell ta66 (by decide +kernel)).trans c71
          refine tr_aload_n dX12_cloud_70 rfl ?_
          refine tr_iload_n dX12_cloud_71 rfl ?_
          refine tr_iload_n dX12_cloud_72 rfl ?_
          refine q_callVv hE (M' := mX12_comes) (as := [_, _]) dX12_cloud_73 lk12_500 inX12_comes seX12_comes myX12_comes (by decide) ⟨by decide, by decide⟩ rfl (kR15 hS83.1 ta0) (Nat.le_of_ble_eq_true rfl) rfl rfl (by decide) (by decide) (k_X12_comes hS83.1 ta0 (by omega) (by omega) (fun q0 z0 => by obtain rfl := Option.some.inj ((d67).symm.trans z0); (try rw [c85]); (try omega))) ?_
          rintro cn' K' N' I86 R87 L88 ⟨rfl, rfl, rfl, rfl, rfl, g89, p91, -⟩
          have hS92 := hS83.tr g89 (by decide +kernel) (by decide +kernel)
          have c93 : I86 a0 0 = v22 := (g89.cell ta0 (by decide +kernel)).trans c84
          obtain ⟨v94, c95⟩ : ∃ v, I86 a66 1 = v := ⟨_, rfl⟩
          have b96 := iv77_1 hS92.1 ta66 (by decide) c95
          have p97 := p91 _ d67
          clear p91
          rw [c95] at p97
          rw [c85] at p97
          refine tr_aload_n dX12_cloud_76 rfl ?_
          refine q_callVi hE (M' := mX12_granted) (as := []) dX12_cloud_77 lk12_513 inX12_granted seX12_granted myX12_granted (by decide) ⟨by decide, by decide⟩ rfl (kR15 hS92.1 ta0) (Nat.le_of_ble_eq_true rfl) rfl rfl (by decide) (by decide) (k_X12_granted hS92.1 ta0) ?_
          rintro v102 cn' K' N' I98 R99 L100 ⟨rfl, rfl, rfl, rfl, rfl, g101, h103, p104, -⟩
          have hS105 := hS92.tr g101 (by decide +kernel) (by decide +kernel)
          have c106 : I98 a0 0 = v22 := (g101.cell ta0 (by decide +kernel)).trans c93
          have c107 : I98 a66 1 = v94 := (g101.cell ta66 (by decide +kernel)).trans c95
          obtain ⟨v108, c109⟩ : ∃ v, I98 a0 2 = v := ⟨_, rfl⟩
          rw [c109] at p104
          exact tr_zret hZ dX12_cloud_80 rfl (ti_b01 (by omega) (by omega)) (by decide) (by decide) ⟨v102, rfl, rfl, rfl, rfl, rfl, rfl, hS105, (by omega), (by (try rw [c109]); (try omega)), trivial⟩
        · skip
          refine tr_aload_n dX12_cloud_60 rfl ?_
          refine q_iconst dX12_cloud_61 (by decide) ?_
          intro v110 h111
          refine q_callVi hE (M' := mX12_denied) (as := [_]) dX12_cloud_62 lk12_507 inX12_denied seX12_denied myX12_denied (by decide) ⟨by decide, by decide⟩ rfl (kR15 hS25.1 ta0) (Nat.le_of_ble_eq_true rfl) rfl rfl (by decide) (by decide) (k_X12_denied hS25.1 ta0) ?_
          rintro v116 cn' K' N' I112 R113 L114 ⟨rfl, rfl, rfl, rfl, rfl, g115, h117, p118, -⟩
          have hS119 := hS25.tr g115 (by decide +kernel) (by decide +kernel)
          have c120 : I112 a0 0 = v22 := (g115.cell ta0 (by decide +kernel)).trans e26
          have c121 : I112 a66 1 = v70 := (g115.cell ta66 (by decide +kernel)).trans c71
          obtain ⟨v122, c123⟩ : ∃ v, I112 a0 2 = v := ⟨_, rfl⟩
          rw [c123] at p118
          exact tr_zret hZ dX12_cloud_65 rfl (ti_b01 (by omega) (by omega)) (by decide) (by decide) ⟨v116, rfl, rfl, rfl, rfl, rfl, rfl, hS119, (by omega), (by (try rw [c123]); (try omega)), trivial⟩
      · skip
        refine tr_aload_n dX12_cloud_43 rfl ?_
        refine q_iconst dX12_cloud_44 (by decide) ?_
        intro v124 h125
        refine q_callVi hE (M' := mX12_denied) (as := [_]) dX12_cloud_45 lk12_507 inX12_denied seX12_denied myX12_denied (by decide) ⟨by decide, by decide⟩ rfl (kR15 hS25.1 ta0) (Nat.le_of_ble_eq_true rfl) rfl rfl (by decide) (by decide) (k_X12_denied hS25.1 ta0) ?_
        rintro v130 cn' K' N' I126 R127 L128 ⟨rfl, rfl, rfl, rfl, rfl, g129, h131, p132, -⟩
        have hS133 := hS25.tr g129 (by decide +kernel) (by decide +kernel)
        have c134 : I126 a0 0 = v22 := (g129.cell ta0 (by decide +kernel)).trans e26
        obtain ⟨v135, c136⟩ : ∃ v, I126 a0 2 = v := ⟨_, rfl⟩
        rw [c136] at p132
        exact tr_zret hZ dX12_cloud_48 rfl (ti_b01 (by omega) (by omega)) (by decide) (by decide) ⟨v130, rfl, rfl, rfl, rfl, rfl, rfl, hS133, (by omega), (by (try rw [c136]); (try omega)), trivial⟩
def wi_X12_draw : List Nat := [960, 961, 962, 979, 4991, 5055]
def wr_X12_draw : List Nat := []
set_option maxHeartbeats 4000000 in
theorem k_X12_draw {l : Launch} {T : Nat → Nat} {cn : Nat} {K N : Nat → Nat} {I0 : cz_I} {R0 : cz_R} {L0 : cz_L} {d : Int} (hW0 : Wf T cn K N I0 R0 d) {a0 : Nat} (ta0 : T a0 = 15) : ConE l mX12_draw [.ref a0] cn K N I0 R0 L0 (ca_i (fun v cn' K' N' I' R' L' => cn = cn' ∧ K = K' ∧ N = N' ∧ R0 = R' ∧ L0 = L' ∧ St T cn K N d wi_X12_draw wr_X12_draw I0 R0 I' R0 ∧ ((I' a0 2).toInt = -1) ∧ True)) := by
  refine ConE.of (by decide +kernel) rfl (Nat.le_of_ble_eq_true rfl) rfl (fun X hX hZ hE => ?_)
  subst hX
  have hS0 : St T cn K N d wi_X12_draw wr_X12_draw I0 R0 I0 R0 := St.rf0 hW0
  rcases rf15_3 hW0 ta0 with d2 | ⟨a1, d2, ta1⟩
  · skip
    refine tr_aload_n dX12_draw_0 rfl ?_
    refine q_iconst dX12_draw_1 (by decide) ?_
    intro v3 h4
    refine q_putI dX12_draw_2 fl12_70 (kR15 hS0.1 ta0) (Or.inl rfl) hS0 ta0 (iokF rfl) rfl (by decide +kernel) ?_
    intro I5 hS6 e7 f8
    refine tr_aload_n dX12_draw_5 rfl ?_
    refine tr_getN dX12_draw_6 fl12_385 (kR15 hS6.1 ta0) d2 ?_
    refine tr_ifnonnullN dX12_draw_9 ?_
    refine tr_aload_n dX12_draw_12 rfl ?_
    refine q_iconst dX12_draw_13 (by decide) ?_
    intro v9 h10
    refine q_callVi hE (M' := mX12_refused) (as := [_]) dX12_draw_14 lk12_76 inX12_refused seX12_refused myX12_refused (by decide) ⟨by decide, by decide⟩ rfl (kR15 hS6.1 ta0) (Nat.le_of_ble_eq_true rfl) rfl rfl (by decide) (by decide) (k_X12_refused hS6.1 ta0) ?_
    rintro v15 cn' K' N' I11 R12 L13 ⟨rfl, rfl, rfl, rfl, rfl, g14, p16, -⟩
    have hS17 := hS6.tr g14 (by decide +kernel) (by decide +kernel)
    have c18 : I11 a0 0 = v3 := (g14.cell ta0 (by decide +kernel)).trans e7
    obtain ⟨v19, c20⟩ : ∃ v, I11 a0 2 = v := ⟨_, rfl⟩
    rw [c20] at p16
    exact tr_iret hZ dX12_draw_17 rfl (by decide) (by decide) ⟨v15, rfl, rfl, rfl, rfl, rfl, rfl, hS17, (by (try rw [c20]); (try omega)), trivial⟩
  · skip
    refine tr_aload_n dX12_draw_0 rfl ?_
    refine q_iconst dX12_draw_1 (by decide) ?_
    intro v21 h22
    refine q_putI dX12_draw_2 fl12_70 (kR15 hS0.1 ta0) (Or.inl rfl) hS0 ta0 (iokF rfl) rfl (by decide +kernel) ?_
    intro I23 hS24 e25 f26
    refine tr_aload_n dX12_draw_5 rfl ?_
    refine tr_getR dX12_draw_6 fl12_385 (kR15 hS24.1 ta0) d2 ?_
    refine tr_ifnonnull 18 dX12_draw_9 (by decide) ?_
    refine tr_aload_n dX12_draw_18 rfl ?_
    obtain ⟨a27, d28, ta27⟩ := rf15_16 hW0 ta0
    refine tr_getR dX12_draw_19 fl12_17 (kR15 hS24.1 ta0) d28 ?_
    refine q_iconst dX12_draw_22 (by decide) ?_
    intro v29 h30
    obtain ⟨v31, c32⟩ : ∃ v, I23 a27 1 = v := ⟨_, rfl⟩
    have b33 := iv77_1 hS24.1 ta27 (by decide) c32
    refine q_iald dX12_draw_23 (kR77 hS24.1 ta27) (ti_in (nR77 hS24.1 ta27) (by omega) (by omega)) ?_
    intro v34 c35
    rw [show v29.toNatClampNeg = 1 from ti_cl (by omega)] at c35
    obtain rfl : v31 = v34 := (c32).symm.trans c35
    refine q_bipush dX12_draw_24 (by decide +kernel) ?_
    intro v36 h37
    refine q_icmp_ne 35 dX12_draw_26 (by decide) (fun h38 => ?_) (fun h38 => ?_)
    · skip
      refine tr_aload_n dX12_draw_35 rfl ?_
      refine q_callVv hE (M' := mX12_keeps) (as := []) dX12_draw_36 lk12_510 inX12_keeps seX12_keeps myX12_keeps (by decide) ⟨by decide, by decide⟩ rfl (kR15 hS24.1 ta0) (Nat.le_of_ble_eq_true rfl) rfl rfl (by decide) (by decide) (k_X12_keeps hS24.1 ta0) ?_
      rintro cn' K' N' I39 R40 L41 ⟨rfl, rfl, rfl, rfl, rfl, g42, -⟩
      have hS44 := hS24.tr g42 (by decide +kernel) (by decide +kernel)
      have c45 : I39 a0 0 = v21 := (g42.cell ta0 (by decide +kernel)).trans e25
      have c46 : I39 a27 1 = v31 := (g42.cell ta27 (by decide +kernel)).trans c32
      refine tr_aload_n dX12_draw_39 rfl ?_
      refine tr_aload_n dX12_draw_40 rfl ?_
      refine q_callVi hE (M' := mX12_draws) (as := []) dX12_draw_41 lk12_504 inX12_draws seX12_draws myX12_draws (by decide) ⟨by decide, by decide⟩ rfl (kR15 hS44.1 ta0) (Nat.le_of_ble_eq_true rfl) rfl rfl (by decide) (by decide) (k_X12_draws hS44.1 ta0 (fun q0 z0 => by obtain rfl := Option.some.inj ((d28).symm.trans z0); (try rw [c46]); (try omega)) ⟨_, d2⟩) ?_
      rintro v51 cn' K' N' I47 R48 L49 ⟨rfl, rfl, rfl, rfl, rfl, g50, h52, p53, -⟩
      have hS54 := hS44.tr g50 (by decide +kernel) (by decide +kernel)
      have c55 : I47 a0 0 = v21 := (g50.cell ta0 (by decide +kernel)).trans c45
      obtain ⟨v56, c57⟩ : ∃ v, I47 a27 1 = v := ⟨_, rfl⟩
      have b58 := iv77_1 hS54.1 ta27 (by decide) c57
      have p59 := p53 _ d28
      clear p53
      rw [c57] at p59
      rw [c46] at p59
      refine q_callVi hE (M' := mX12_good) (as := [_]) dX12_draw_44 lk12_81 inX12_good seX12_good myX12_good (by decide) ⟨by decide, by decide⟩ rfl (kR15 hS54.1 ta0) (Nat.le_of_ble_eq_true rfl) rfl rfl (by decide) (by decide) (k_X12_good hS54.1 ta0) ?_
      rintro v64 cn' K' N' I60 R61 L62 ⟨rfl, rfl, rfl, rfl, rfl, g63, p65, -⟩
      have hS66 := hS54.tr g63 (by decide +kernel) (by decide +kernel)
      have c67 : I60 a0 0 = v21 := (g63.cell ta0 (by decide +kernel)).trans c55
      have c68 : I60 a27 1 = v56 := (g63.cell ta27 (by decide +kernel)).trans c57
      obtain ⟨v69, c70⟩ : ∃ v, I60 a0 2 = v := ⟨_, rfl⟩
      rw [c70] at p65
      exact tr_iret hZ dX12_draw_47 rfl (by decide) (by decide) ⟨v64, rfl, rfl, rfl, rfl, rfl, rfl, hS66, (by (try rw [c70]); (try omega)), trivial⟩
    · skip
      refine tr_aload_n dX12_draw_29 rfl ?_
      refine q_iconst dX12_draw_30 (by decide) ?_
      intro v71 h72
      refine q_callVi hE (M' := mX12_refused) (as := [_]) dX12_draw_31 lk12_76 inX12_refused seX12_refused myX12_refused (by decide) ⟨by decide, by decide⟩ rfl (kR15 hS24.1 ta0) (Nat.le_of_ble_eq_true rfl) rfl rfl (by decide) (by decide) (k_X12_refused hS24.1 ta0) ?_
      rintro v77 cn' K' N' I73 R74 L75 ⟨rfl, rfl, rfl, rfl, rfl, g76, p78, -⟩
      have hS79 := hS24.tr g76 (by decide +kernel) (by decide +kernel)
      have c80 : I73 a0 0 = v21 := (g76.cell ta0 (by decide +kernel)).trans e25
      have c81 : I73 a27 1 = v31 := (g76.cell ta27 (by decide +kernel)).trans c32
      obtain ⟨v82, c83⟩ : ∃ v, I73 a0 2 = v := ⟨_, rfl⟩
      rw [c83] at p78
      exact tr_iret hZ dX12_draw_34 rfl (by decide) (by decide) ⟨v77, rfl, rfl, rfl, rfl, rfl, rfl, hS79, (by (try rw [c83]); (try omega)), trivial⟩
def wi_X12_lift : List Nat := [960, 961, 962, 979, 4991, 5055]
def wr_X12_lift : List Nat := []
set_option maxHeartbeats 4000000 in
theorem k_X12_lift {l : Launch} {T : Nat → Nat} {cn : Nat} {K N : Nat → Nat} {I0 : cz_I} {R0 : cz_R} {L0 : cz_L} {d : Int} (hW0 : Wf T cn K N I0 R0 d) {a0 : Nat} (ta0 : T a0 = 15) : ConE l mX12_lift [.ref a0] cn K N I0 R0 L0 (ca_i (fun v cn' K' N' I' R' L' => cn = cn' ∧ K = K' ∧ N = N' ∧ R0 = R' ∧ L0 = L' ∧ St T cn K N d wi_X12_lift wr_X12_lift I0 R0 I' R0 ∧ (0 ≤ v.toInt ∧ v.toInt ≤ 1) ∧ ((I' a0 2).toInt = -1) ∧ True)) := by
  refine ConE.of (by decide +kernel) rfl (Nat.le_of_ble_eq_true rfl) rfl (fun X hX hZ hE => ?_)
  subst hX
  have hS0 : St T cn K N d wi_X12_lift wr_X12_lift I0 R0 I0 R0 := St.rf0 hW0
  rcases rf15_3 hW0 ta0 with d2 | ⟨a1, d2, ta1⟩
  · skip
    refine tr_aload_n dX12_lift_0 rfl ?_
    refine q_iconst dX12_lift_1 (by decide) ?_
    intro v3 h4
    refine q_putI dX12_lift_2 fl12_70 (kR15 hS0.1 ta0) (Or.inl rfl) hS0 ta0 (iokF rfl) rfl (by decide +kernel) ?_
    intro I5 hS6 e7 f8
    refine tr_aload_n dX12_lift_5 rfl ?_
    refine tr_getN dX12_lift_6 fl12_385 (kR15 hS6.1 ta0) d2 ?_
    refine tr_ifnullN 21 dX12_lift_9 (by decide) ?_
    refine tr_aload_n dX12_lift_21 rfl ?_
    refine q_bipush dX12_lift_22 (by decide +kernel) ?_
    intro v9 h10
    refine q_callVi hE (M' := mX12_denied) (as := [_]) dX12_lift_24 lk12_507 inX12_denied seX12_denied myX12_denied (by decide) ⟨by decide, by decide⟩ rfl (kR15 hS6.1 ta0) (Nat.le_of_ble_eq_true rfl) rfl rfl (by decide) (by decide) (k_X12_denied hS6.1 ta0) ?_
    rintro v15 cn' K' N' I11 R12 L13 ⟨rfl, rfl, rfl, rfl, rfl, g14, h16, p17, -⟩
    have hS18 := hS6.tr g14 (by decide +kernel) (by decide +kernel)
    have c19 : I11 a0 0 = v3 := (g14.cell ta0 (by decide +kernel)).trans e7
    obtain ⟨v20, c21⟩ : ∃ v, I11 a0 2 = v := ⟨_, rfl⟩
    rw [c21] at p17
    exact tr_zret hZ dX12_lift_27 rfl (ti_b01 (by omega) (by omega)) (by decide) (by decide) ⟨v15, rfl, rfl, rfl, rfl, rfl, rfl, hS18, (by omega), (by (try rw [c21]); (try omega)), trivial⟩
  · skip
    refine tr_aload_n dX12_lift_0 rfl ?_
    refine q_iconst dX12_lift_1 (by decide) ?_
    intro v22 h23
    refine q_putI dX12_lift_2 fl12_70 (kR15 hS0.1 ta0) (Or.inl rfl) hS0 ta0 (iokF rfl) rfl (by decide +kernel) ?_
    intro I24 hS25 e26 f27
    refine tr_aload_n dX12_lift_5 rfl ?_
    refine tr_getR dX12_lift_6 fl12_385 (kR15 hS25.1 ta0) d2 ?_
    refine tr_ifnull dX12_lift_9 ?_
    refine tr_aload_n dX12_lift_12 rfl ?_
    obtain ⟨a28, d29, ta28⟩ := rf15_16 hW0 ta0
    refine tr_getR dX12_lift_13 fl12_17 (kR15 hS25.1 ta0) d29 ?_
    refine q_iconst dX12_lift_16 (by decide) ?_
    intro v30 h31
    obtain ⟨v32, c33⟩ : ∃ v, I24 a28 1 = v := ⟨_, rfl⟩
    have b34 := iv77_1 hS25.1 ta28 (by decide) c33
    refine q_iald dX12_lift_17 (kR77 hS25.1 ta28) (ti_in (nR77 hS25.1 ta28) (by omega) (by omega)) ?_
    intro v35 c36
    rw [show v30.toNatClampNeg = 1 from ti_cl (by omega)] at c36
    obtain rfl : v32 = v35 := (c33).symm.trans c36
    refine q_if_ne 28 dX12_lift_18 (by decide) (fun h37 => ?_) (fun h37 => ?_)
    · skip
      refine tr_aload_n dX12_lift_28 rfl ?_
      refine q_callVv hE (M' := mX12_keeps) (as := []) dX12_lift_29 lk12_510 inX12_keeps seX12_keeps myX12_keeps (by decide) ⟨by decide, by decide⟩ rfl (kR15 hS25.1 ta0) (Nat.le_of_ble_eq_true rfl) rfl rfl (by decide) (by decide) (k_X12_keeps hS25.1 ta0) ?_
      rintro cn' K' N' I38 R39 L40 ⟨rfl, rfl, rfl, rfl, rfl, g41, -⟩
      have hS43 := hS25.tr g41 (by decide +kernel) (by decide +kernel)
      have c44 : I38 a0 0 = v22 := (g41.cell ta0 (by decide +kernel)).trans e26
      have c45 : I38 a28 1 = v32 := (g41.cell ta28 (by decide +kernel)).trans c33
      refine tr_aload_n dX12_lift_32 rfl ?_
      refine tr_getR dX12_lift_33 fl12_17 (kR15 hS43.1 ta0) d29 ?_
      refine q_iconst dX12_lift_36 (by decide) ?_
      intro v46 h47
      refine tr_dup2 dX12_lift_37 rfl rfl ?_
      refine q_iald dX12_lift_38 (kR77 hS43.1 ta28) (ti_in (nR77 hS43.1 ta28) (by omega) (by omega)) ?_
      intro v48 c49
      rw [show v46.toNatClampNeg = 1 from ti_cl (by omega)] at c49
      obtain rfl : v32 = v48 := (c45).symm.trans c49
      refine q_iconst dX12_lift_39 (by decide) ?_
      intro v50 h51
      refine q_isubE dX12_lift_40 (by intros; omega) ?_
      intro v52 h53
      refine q_iast dX12_lift_41 (kR77 hS43.1 ta28) (ti_in (nR77 hS43.1 ta28) (by omega) (by omega)) hS43 ta28 (iok_w1 rfl (by have q := ti_nat (i := v46) (by omega); omega) (by omega)) rfl (by rfl) ?_
      intro I54 hS55 e57 f56
      have c58 : I54 a0 0 = v22 := (f56 _ _ (fun q => by have z := ti_nat (i := v46) (by omega); omega)).trans c44
      rw [show v46.toNatClampNeg = 1 from ti_cl (by omega)] at e57
      refine tr_aload_n dX12_lift_42 rfl ?_
      refine q_callVi hE (M' := mX12_granted) (as := []) dX12_lift_43 lk12_513 inX12_granted seX12_granted myX12_granted (by decide) ⟨by decide, by decide⟩ rfl (kR15 hS55.1 ta0) (Nat.le_of_ble_eq_true rfl) rfl rfl (by decide) (by decide) (k_X12_granted hS55.1 ta0) ?_
      rintro v63 cn' K' N' I59 R60 L61 ⟨rfl, rfl, rfl, rfl, rfl, g62, h64, p65, -⟩
      have hS66 := hS55.tr g62 (by decide +kernel) (by decide +kernel)
      have c67 : I59 a0 0 = v22 := (g62.cell ta0 (by decide +kernel)).trans c58
      have c68 : I59 a28 1 = v52 := (g62.cell ta28 (by decide +kernel)).trans e57
      obtain ⟨v69, c70⟩ : ∃ v, I59 a0 2 = v := ⟨_, rfl⟩
      rw [c70] at p65
      exact tr_zret hZ dX12_lift_46 rfl (ti_b01 (by omega) (by omega)) (by decide) (by decide) ⟨v63, rfl, rfl, rfl, rfl, rfl, rfl, hS66, (by omega), (by (try rw [c70]); (try omega)), trivial⟩
    · skip
      refine tr_aload_n dX12_lift_21 rfl ?_
      refine q_bipush dX12_lift_22 (by decide +kernel) ?_
      intro v71 h72
      refine q_callVi hE (M' := mX12_denied) (as := [_]) dX12_lift_24 lk12_507 inX12_denied seX12_denied myX12_denied (by decide) ⟨by decide, by decide⟩ rfl (kR15 hS25.1 ta0) (Nat.le_of_ble_eq_true rfl) rfl rfl (by decide) (by decide) (k_X12_denied hS25.1 ta0) ?_
      rintro v77 cn' K' N' I73 R74 L75 ⟨rfl, rfl, rfl, rfl, rfl, g76, h78, p79, -⟩
      have hS80 := hS25.tr g76 (by decide +kernel) (by decide +kernel)
      have c81 : I73 a0 0 = v22 := (g76.cell ta0 (by decide +kernel)).trans e26
      have c82 : I73 a28 1 = v32 := (g76.cell ta28 (by decide +kernel)).trans c33
      obtain ⟨v83, c84⟩ : ∃ v, I73 a0 2 = v := ⟨_, rfl⟩
      rw [c84] at p79
      exact tr_zret hZ dX12_lift_27 rfl (ti_b01 (by omega) (by omega)) (by decide) (by decide) ⟨v77, rfl, rfl, rfl, rfl, rfl, rfl, hS80, (by omega), (by (try rw [c84]); (try omega)), trivial⟩
def wi_X12_seed : List Nat := [960, 961, 962, 4991]
def wr_X12_seed : List Nat := []
set_option maxHeartbeats 4000000 in
theorem k_X12_seed {l : Launch} {T : Nat → Nat} {cn : Nat} {K N : Nat → Nat} {I0 : cz_I} {R0 : cz_R} {L0 : cz_L} {d : Int} (hW0 : Wf T cn K N I0 R0 d) {a0 : Nat} (ta0 : T a0 = 15) {x1 : Int32} : ConE l mX12_seed [.ref a0, .int x1] cn K N I0 R0 L0 (ca_i (fun v cn' K' N' I' R' L' => cn = cn' ∧ K = K' ∧ N = N' ∧ R0 = R' ∧ L0 = L' ∧ St T cn K N d wi_X12_seed wr_X12_seed I0 R0 I' R0 ∧ (0 ≤ v.toInt ∧ v.toInt ≤ 1) ∧ ((I' a0 2).toInt = -1) ∧ True)) := by
  refine ConE.of (by decide +kernel) rfl (Nat.le_of_ble_eq_true rfl) rfl (fun X hX hZ hE => ?_)
  subst hX
  have hS0 : St T cn K N d wi_X12_seed wr_X12_seed I0 R0 I0 R0 := St.rf0 hW0
  rcases rf15_3 hW0 ta0 with d2 | ⟨a1, d2, ta1⟩
  · skip
    refine tr_aload_n dX12_seed_0 rfl ?_
    refine q_iconst dX12_seed_1 (by decide) ?_
    intro v3 h4
    refine q_putI dX12_seed_2 fl12_70 (kR15 hS0.1 ta0) (Or.inl rfl) hS0 ta0 (iokF rfl) rfl (by decide +kernel) ?_
    intro I5 hS6 e7 f8
    refine tr_aload_n dX12_seed_5 rfl ?_
    refine tr_getN dX12_seed_6 fl12_385 (kR15 hS6.1 ta0) d2 ?_
    refine tr_ifnonnullN dX12_seed_9 ?_
    refine tr_aload_n dX12_seed_12 rfl ?_
    refine q_iconst dX12_seed_13 (by decide) ?_
    intro v9 h10
    refine q_callVi hE (M' := mX12_denied) (as := [_]) dX12_seed_14 lk12_507 inX12_denied seX12_denied myX12_denied (by decide) ⟨by decide, by decide⟩ rfl (kR15 hS6.1 ta0) (Nat.le_of_ble_eq_true rfl) rfl rfl (by decide) (by decide) (k_X12_denied hS6.1 ta0) ?_
    rintro v15 cn' K' N' I11 R12 L13 ⟨rfl, rfl, rfl, rfl, rfl, g14, h16, p17, -⟩
    have hS18 := hS6.tr g14 (by decide +kernel) (by decide +kernel)
    have c19 : I11 a0 0 = v3 := (g14.cell ta0 (by decide +kernel)).trans e7
    obtain ⟨v20, c21⟩ : ∃ v, I11 a0 2 = v := ⟨_, rfl⟩
    rw [c21] at p17
    exact tr_zret hZ dX12_seed_17 rfl (ti_b01 (by omega) (by omega)) (by decide) (by decide) ⟨v15, rfl, rfl, rfl, rfl, rfl, rfl, hS18, (by omega), (by (try rw [c21]); (try omega)), trivial⟩
  · skip
    refine tr_aload_n dX12_seed_0 rfl ?_
    refine q_iconst dX12_seed_1 (by decide) ?_
    intro v22 h23
    refine q_putI dX12_seed_2 fl12_70 (kR15 hS0.1 ta0) (Or.inl rfl) hS0 ta0 (iokF rfl) rfl (by decide +kernel) ?_
    intro I24 hS25 e26 f27
    refine tr_aload_n dX12_seed_5 rfl ?_
    refine tr_getR dX12_seed_6 fl12_385 (kR15 hS25.1 ta0) d2 ?_
    refine tr_ifnonnull 18 dX12_seed_9 (by decide) ?_
    refine tr_iload_n dX12_seed_18 rfl ?_
    refine q_iconst dX12_seed_19 (by decide) ?_
    intro v28 h29
    refine q_ldcw 65536 dX12_seed_20 ld12_503 (by decide +kernel) ?_
    intro v30 h31
    refine q_callSi hE (M' := mX12_in) (as := [_, _, _]) dX12_seed_23 lk12_149 inX12_in myX12_in ⟨by decide, by decide⟩ rfl (Nat.le_of_ble_eq_true rfl) rfl rfl (by decide) (by decide) (k_X12_in hS25.1 ) ?_
    rintro v36 cn' K' N' I32 R33 L34 ⟨rfl, rfl, rfl, rfl, rfl, rfl, h37, p38, p39, -⟩
    refine q_if_ne 35 dX12_seed_26 (by decide) (fun h40 => ?_) (fun h40 => ?_)
    · skip
      refine tr_aload_n dX12_seed_35 rfl ?_
      obtain ⟨a41, d42, ta41⟩ := rf15_16 hW0 ta0
      refine tr_getR dX12_seed_36 fl12_17 (kR15 hS25.1 ta0) d42 ?_
      refine q_iconst dX12_seed_39 (by decide) ?_
      intro v43 h44
      refine tr_iload_n dX12_seed_40 rfl ?_
      refine q_iast dX12_seed_41 (kR77 hS25.1 ta41) (ti_in (nR77 hS25.1 ta41) (by omega) (by omega)) hS25 ta41 (iok_w2 rfl (by have q := ti_nat (i := v43) (by omega); omega) (by omega)) rfl (by rfl) ?_
      intro I45 hS46 e48 f47
      have c49 : I45 a0 0 = v22 := (f47 _ _ (fun q => by have z := ti_nat (i := v43) (by omega); omega)).trans e26
      rw [show v43.toNatClampNeg = 2 from ti_cl (by omega)] at e48
      refine tr_aload_n dX12_seed_42 rfl ?_
      refine q_callVi hE (M' := mX12_granted) (as := []) dX12_seed_43 lk12_513 inX12_granted seX12_granted myX12_granted (by decide) ⟨by decide, by decide⟩ rfl (kR15 hS46.1 ta0) (Nat.le_of_ble_eq_true rfl) rfl rfl (by decide) (by decide) (k_X12_granted hS46.1 ta0) ?_
      rintro v54 cn' K' N' I50 R51 L52 ⟨rfl, rfl, rfl, rfl, rfl, g53, h55, p56, -⟩
      have hS57 := hS46.tr g53 (by decide +kernel) (by decide +kernel)
      have c58 : I50 a0 0 = v22 := (g53.cell ta0 (by decide +kernel)).trans c49
      have c59 : I50 a41 2 = x1 := (g53.cell ta41 (by decide +kernel)).trans e48
      obtain ⟨v60, c61⟩ : ∃ v, I50 a0 2 = v := ⟨_, rfl⟩
      rw [c61] at p56
      exact tr_zret hZ dX12_seed_46 rfl (ti_b01 (by omega) (by omega)) (by decide) (by decide) ⟨v54, rfl, rfl, rfl, rfl, rfl, rfl, hS57, (by omega), (by (try rw [c61]); (try omega)), trivial⟩
    · skip
      refine tr_aload_n dX12_seed_29 rfl ?_
      refine q_iconst dX12_seed_30 (by decide) ?_
      intro v62 h63
      refine q_callVi hE (M' := mX12_denied) (as := [_]) dX12_seed_31 lk12_507 inX12_denied seX12_denied myX12_denied (by decide) ⟨by decide, by decide⟩ rfl (kR15 hS25.1 ta0) (Nat.le_of_ble_eq_true rfl) rfl rfl (by decide) (by decide) (k_X12_denied hS25.1 ta0) ?_
      rintro v68 cn' K' N' I64 R65 L66 ⟨rfl, rfl, rfl, rfl, rfl, g67, h69, p70, -⟩
      have hS71 := hS25.tr g67 (by decide +kernel) (by decide +kernel)
      have c72 : I64 a0 0 = v22 := (g67.cell ta0 (by decide +kernel)).trans e26
      obtain ⟨v73, c74⟩ : ∃ v, I64 a0 2 = v := ⟨_, rfl⟩
      rw [c74] at p70
      exact tr_zret hZ dX12_seed_34 rfl (ti_b01 (by omega) (by omega)) (by decide) (by decide) ⟨v68, rfl, rfl, rfl, rfl, rfl, rfl, hS71, (by omega), (by (try rw [c74]); (try omega)), trivial⟩
def wi_X12_undo : List Nat := [960, 961, 962, 979, 4991]
def wr_X12_undo : List Nat := []
set_option maxHeartbeats 4000000 in
theorem k_X12_undo {l : Launch} {T : Nat → Nat} {cn : Nat} {K N : Nat → Nat} {I0 : cz_I} {R0 : cz_R} {L0 : cz_L} {d : Int} (hW0 : Wf T cn K N I0 R0 d) {a0 : Nat} (ta0 : T a0 = 15) : ConE l mX12_undo [.ref a0] cn K N I0 R0 L0 (ca_i (fun v cn' K' N' I' R' L' => cn = cn' ∧ K = K' ∧ N = N' ∧ R0 = R' ∧ L0 = L' ∧ St T cn K N d wi_X12_undo wr_X12_undo I0 R0 I' R0 ∧ (0 ≤ v.toInt ∧ v.toInt ≤ 1) ∧ ((I' a0 2).toInt = -1) ∧ True)) := by
  refine ConE.of (by decide +kernel) rfl (Nat.le_of_ble_eq_true rfl) rfl (fun X hX hZ hE => ?_)
  subst hX
  have hS0 : St T cn K N d wi_X12_undo wr_X12_undo I0 R0 I0 R0 := St.rf0 hW0
  rcases rf15_3 hW0 ta0 with d2 | ⟨a1, d2, ta1⟩
  · skip
    refine tr_aload_n dX12_undo_0 rfl ?_
    refine q_iconst dX12_undo_1 (by decide) ?_
    intro v3 h4
    refine q_putI dX12_undo_2 fl12_70 (kR15 hS0.1 ta0) (Or.inl rfl) hS0 ta0 (iokF rfl) rfl (by decide +kernel) ?_
    intro I5 hS6 e7 f8
    refine tr_aload_n dX12_undo_5 rfl ?_
    refine tr_getN dX12_undo_6 fl12_385 (kR15 hS6.1 ta0) d2 ?_
    refine tr_ifnullN 19 dX12_undo_9 (by decide) ?_
    refine tr_aload_n dX12_undo_19 rfl ?_
    refine q_bipush dX12_undo_20 (by decide +kernel) ?_
    intro v9 h10
    refine q_callVi hE (M' := mX12_denied) (as := [_]) dX12_undo_22 lk12_507 inX12_denied seX12_denied myX12_denied (by decide) ⟨by decide, by decide⟩ rfl (kR15 hS6.1 ta0) (Nat.le_of_ble_eq_true rfl) rfl rfl (by decide) (by decide) (k_X12_denied hS6.1 ta0) ?_
    rintro v15 cn' K' N' I11 R12 L13 ⟨rfl, rfl, rfl, rfl, rfl, g14, h16, p17, -⟩
    have hS18 := hS6.tr g14 (by decide +kernel) (by decide +kernel)
    have c19 : I11 a0 0 = v3 := (g14.cell ta0 (by decide +kernel)).trans e7
    obtain ⟨v20, c21⟩ : ∃ v, I11 a0 2 = v := ⟨_, rfl⟩
    rw [c21] at p17
    exact tr_zret hZ dX12_undo_25 rfl (ti_b01 (by omega) (by omega)) (by decide) (by decide) ⟨v15, rfl, rfl, rfl, rfl, rfl, rfl, hS18, (by omega), (by (try rw [c21]); (try omega)), trivial⟩
  · skip
    refine tr_aload_n dX12_undo_0 rfl ?_
    refine q_iconst dX12_undo_1 (by decide) ?_
    intro v22 h23
    refine q_putI dX12_undo_2 fl12_70 (kR15 hS0.1 ta0) (Or.inl rfl) hS0 ta0 (iokF rfl) rfl (by decide +kernel) ?_
    intro I24 hS25 e26 f27
    refine tr_aload_n dX12_undo_5 rfl ?_
    refine tr_getR dX12_undo_6 fl12_385 (kR15 hS25.1 ta0) d2 ?_
    refine tr_ifnull dX12_undo_9 ?_
    refine tr_aload_n dX12_undo_12 rfl ?_
    obtain ⟨v28, c29⟩ : ∃ v, I24 a0 19 = v := ⟨_, rfl⟩
    have b30 := iv15_19 hS25.1 ta0 c29
    refine q_getI dX12_undo_13 fl12_387 (kR15 hS25.1 ta0) c29 ?_
    refine q_if_ne 26 dX12_undo_16 (by decide) (fun h31 => ?_) (fun h31 => ?_)
    · skip
      refine tr_aload_n dX12_undo_26 rfl ?_
      refine tr_dup dX12_undo_27 rfl ?_
      refine q_getI dX12_undo_28 fl12_387 (kR15 hS25.1 ta0) c29 ?_
      refine q_iconst dX12_undo_31 (by decide) ?_
      intro v32 h33
      refine q_isubE dX12_undo_32 (by intros; omega) ?_
      intro v34 h35
      refine q_putI dX12_undo_33 fl12_387 (kR15 hS25.1 ta0) (Or.inl rfl) hS25 ta0 (by show (0 : Int) ≤ v34.toInt ∧ v34.toInt ≤ (12 : Int); omega) rfl (by decide +kernel) ?_
      intro I36 hS37 e38 f39
      have c40 : I36 a0 0 = v22 := (f39 _ _ (fun q => absurd q.2 (by decide))).trans e26
      refine q_iconst dX12_undo_36 (by decide) ?_
      intro v41 h42
      refine tr_istore_n dX12_undo_37 (by decide) (by decide) ?_
      have lp52 : ∀ (fu : Nat) (ls : Nat → Option Value) (v43 : Int32) (I46 : cz_I) (v48 : Int32), ls 0 = some (.ref a0) → ls 1 = some (.int v43) → St T cn K N d wi_X12_undo wr_X12_undo I0 R0 I46 R0 → I46 a0 19 = v48 → v48.toInt ≤ 11 → 0 ≤ v43.toInt → (-v43.toInt + 2147483647).toNat < fu → Tr X mX12_undo 38 ls [] cn K N I46 R0 L0 0 0 := by
        intro fu
        induction fu with
        | zero => intros; rename_i hz; exact absurd hz (Nat.not_lt_zero _)
        | succ fu ih52 =>
          intro ls v43 I46 v48 hl44 hl45 hS47 c49 g50 g51 hm52
          have b54 := iv15_19 hS47.1 ta0 c49
          refine tr_iload_n dX12_undo_38 hl45 ?_
          refine q_bipush dX12_undo_39 (by decide +kernel) ?_
          intro v55 h56
          refine q_icmp_ge 70 dX12_undo_41 (by decide) (fun h57 => ?_) (fun h57 => ?_)
          · skip
            refine tr_aload_n dX12_undo_70 hl44 ?_
            refine q_callVi hE (M' := mX12_granted) (as := []) dX12_undo_71 lk12_513 inX12_granted seX12_granted myX12_granted (by decide) ⟨by decide, by decide⟩ rfl (kR15 hS47.1 ta0) (Nat.le_of_ble_eq_true rfl) rfl rfl (by decide) (by decide) (k_X12_granted hS47.1 ta0) ?_
            rintro v62 cn' K' N' I58 R59 L60 ⟨rfl, rfl, rfl, rfl, rfl, g61, h63, p64, -⟩
            have hS65 := hS47.tr g61 (by decide +kernel) (by decide +kernel)
            have c66 : I58 a0 19 = v48 := (g61.cell ta0 (by decide +kernel)).trans c49
            obtain ⟨v67, c68⟩ : ∃ v, I58 a0 2 = v := ⟨_, rfl⟩
            rw [c68] at p64
            exact tr_zret hZ dX12_undo_74 rfl (ti_b01 (by omega) (by omega)) (by decide) (by decide) ⟨v62, rfl, rfl, rfl, rfl, rfl, rfl, hS65, (by omega), (by (try rw [c68]); (try omega)), trivial⟩
          · skip
            refine tr_aload_n dX12_undo_44 hl44 ?_
            obtain ⟨a69, d70, ta69⟩ := rf15_16 hW0 ta0
            refine tr_getR dX12_undo_45 fl12_17 (kR15 hS47.1 ta0) d70 ?_
            refine tr_iload_n dX12_undo_48 hl45 ?_
            refine tr_aload_n dX12_undo_49 hl44 ?_
            obtain ⟨a71, d72, ta71⟩ := rf15_17 hW0 ta0
            refine tr_getR dX12_undo_50 fl12_21 (kR15 hS47.1 ta0) d72 ?_
            refine q_bipush dX12_undo_53 (by decide +kernel) ?_
            intro v73 h74
            refine tr_aload_n dX12_undo_55 hl44 ?_
            refine q_getI dX12_undo_56 fl12_387 (kR15 hS47.1 ta0) c49 ?_
            refine q_imulE (c := 15) dX12_undo_59 (by omega) (by omega) ?_
            intro v75 h76
            refine tr_iload_n dX12_undo_60 hl45 ?_
            refine q_iaddE dX12_undo_61 (by intros; omega) ?_
            intro v77 h78
            refine q_iald dX12_undo_62 (kR78 hS47.1 ta71) (ti_in (nR78 hS47.1 ta71) (by omega) (by omega)) ?_
            intro v79 c80
            refine q_iast dX12_undo_63 (kR77 hS47.1 ta69) (ti_in (nR77 hS47.1 ta69) (by omega) (by omega)) hS47 ta69 (iok_w (r := 78) rfl rfl (by have q := ti_nat (i := v43) (by omega); have q2 := ti_nat (i := v77) (by omega); omega) (hS47.1.iv ta71 c80)) rfl (by rfl) ?_
            intro I82 hS83 e85 f84
            have c86 : I82 a0 19 = v48 := (f84 _ _ (fun q => by have z := ti_nat (i := v43) (by omega); omega)).trans c49
            refine q_iincE dX12_undo_64 hl45 (by decide) (by decide) (by intros; omega) ?_
            intro v87 h88
            refine tr_goto 38 dX12_undo_67 (by decide) ?_
            exact ih52 _ v87 I82 v48 hl44 rfl hS83 c86 (by omega) (by omega) (by omega)
      exact lp52 _ _ v41 I36 v34 rfl rfl hS37 e38 (by omega) (by omega) (Nat.lt_succ_self _)
    · skip
      refine tr_aload_n dX12_undo_19 rfl ?_
      refine q_bipush dX12_undo_20 (by decide +kernel) ?_
      intro v89 h90
      refine q_callVi hE (M' := mX12_denied) (as := [_]) dX12_undo_22 lk12_507 inX12_denied seX12_denied myX12_denied (by decide) ⟨by decide, by decide⟩ rfl (kR15 hS25.1 ta0) (Nat.le_of_ble_eq_true rfl) rfl rfl (by decide) (by decide) (k_X12_denied hS25.1 ta0) ?_
      rintro v95 cn' K' N' I91 R92 L93 ⟨rfl, rfl, rfl, rfl, rfl, g94, h96, p97, -⟩
      have hS98 := hS25.tr g94 (by decide +kernel) (by decide +kernel)
      have c99 : I91 a0 0 = v22 := (g94.cell ta0 (by decide +kernel)).trans e26
      have c100 : I91 a0 19 = v28 := (g94.cell ta0 (by decide +kernel)).trans c29
      obtain ⟨v101, c102⟩ : ∃ v, I91 a0 2 = v := ⟨_, rfl⟩
      rw [c102] at p97
      exact tr_zret hZ dX12_undo_25 rfl (ti_b01 (by omega) (by omega)) (by decide) (by decide) ⟨v95, rfl, rfl, rfl, rfl, rfl, rfl, hS98, (by omega), (by (try rw [c102]); (try omega)), trivial⟩
def wi_X12_mark : List Nat := [960, 961, 962, 980, 5119]
def wr_X12_mark : List Nat := []
set_option maxHeartbeats 4000000 in
theorem k_X12_mark {l : Launch} {T : Nat → Nat} {cn : Nat} {K N : Nat → Nat} {I0 : cz_I} {R0 : cz_R} {L0 : cz_L} {d : Int} (hW0 : Wf T cn K N I0 R0 d) {a0 : Nat} (ta0 : T a0 = 15) : ConE l mX12_mark [.ref a0] cn K N I0 R0 L0 (ca_i (fun v cn' K' N' I' R' L' => cn = cn' ∧ K = K' ∧ N = N' ∧ R0 = R' ∧ L0 = L' ∧ St T cn K N d wi_X12_mark wr_X12_mark I0 R0 I' R0 ∧ ((I' a0 2).toInt = -1) ∧ True)) := by
  refine ConE.of (by decide +kernel) rfl (Nat.le_of_ble_eq_true rfl) rfl (fun X hX hZ hE => ?_)
  subst hX
  have hS0 : St T cn K N d wi_X12_mark wr_X12_mark I0 R0 I0 R0 := St.rf0 hW0
  rcases rf15_3 hW0 ta0 with d2 | ⟨a1, d2, ta1⟩
  · skip
    refine tr_aload_n dX12_mark_0 rfl ?_
    refine q_iconst dX12_mark_1 (by decide) ?_
    intro v3 h4
    refine q_putI dX12_mark_2 fl12_70 (kR15 hS0.1 ta0) (Or.inl rfl) hS0 ta0 (iokF rfl) rfl (by decide +kernel) ?_
    intro I5 hS6 e7 f8
    refine tr_aload_n dX12_mark_5 rfl ?_
    refine tr_getN dX12_mark_6 fl12_385 (kR15 hS6.1 ta0) d2 ?_
    refine tr_ifnonnullN dX12_mark_9 ?_
    refine tr_aload_n dX12_mark_12 rfl ?_
    refine q_iconst dX12_mark_13 (by decide) ?_
    intro v9 h10
    refine q_callVi hE (M' := mX12_refused) (as := [_]) dX12_mark_14 lk12_76 inX12_refused seX12_refused myX12_refused (by decide) ⟨by decide, by decide⟩ rfl (kR15 hS6.1 ta0) (Nat.le_of_ble_eq_true rfl) rfl rfl (by decide) (by decide) (k_X12_refused hS6.1 ta0) ?_
    rintro v15 cn' K' N' I11 R12 L13 ⟨rfl, rfl, rfl, rfl, rfl, g14, p16, -⟩
    have hS17 := hS6.tr g14 (by decide +kernel) (by decide +kernel)
    have c18 : I11 a0 0 = v3 := (g14.cell ta0 (by decide +kernel)).trans e7
    obtain ⟨v19, c20⟩ : ∃ v, I11 a0 2 = v := ⟨_, rfl⟩
    rw [c20] at p16
    exact tr_iret hZ dX12_mark_17 rfl (by decide) (by decide) ⟨v15, rfl, rfl, rfl, rfl, rfl, rfl, hS17, (by (try rw [c20]); (try omega)), trivial⟩
  · skip
    refine tr_aload_n dX12_mark_0 rfl ?_
    refine q_iconst dX12_mark_1 (by decide) ?_
    intro v21 h22
    refine q_putI dX12_mark_2 fl12_70 (kR15 hS0.1 ta0) (Or.inl rfl) hS0 ta0 (iokF rfl) rfl (by decide +kernel) ?_
    intro I23 hS24 e25 f26
    refine tr_aload_n dX12_mark_5 rfl ?_
    refine tr_getR dX12_mark_6 fl12_385 (kR15 hS24.1 ta0) d2 ?_
    refine tr_ifnonnull 18 dX12_mark_9 (by decide) ?_
    refine tr_aload_n dX12_mark_18 rfl ?_
    obtain ⟨v27, c28⟩ : ∃ v, I23 a0 20 = v := ⟨_, rfl⟩
    have b29 := iv15_20 hS24.1 ta0 c28
    refine q_getI dX12_mark_19 fl12_390 (kR15 hS24.1 ta0) c28 ?_
    refine q_iconst dX12_mark_22 (by decide) ?_
    intro v30 h31
    refine q_icmp_ne 32 dX12_mark_23 (by decide) (fun h32 => ?_) (fun h32 => ?_)
    · skip
      refine q_iconst dX12_mark_32 (by decide) ?_
      intro v33 h34
      refine tr_istore_n dX12_mark_33 (by decide) (by decide) ?_
      have lp44 : ∀ (fu : Nat) (ls : Nat → Option Value) (v35 : Int32) (I38 : cz_I) (v40 : Int32), ls 0 = some (.ref a0) → ls 1 = some (.int v35) → St T cn K N d wi_X12_mark wr_X12_mark I0 R0 I38 R0 → I38 a0 20 = v40 → v40.toInt ≤ 2 → 0 ≤ v35.toInt → (-v35.toInt + 2147483647).toNat < fu → Tr X mX12_mark 34 ls [] cn K N I38 R0 L0 0 0 := by
        intro fu
        induction fu with
        | zero => intros; rename_i hz; exact absurd hz (Nat.not_lt_zero _)
        | succ fu ih44 =>
          intro ls v35 I38 v40 hl36 hl37 hS39 c41 g42 g43 hm44
          have b46 := iv15_20 hS39.1 ta0 c41
          refine tr_iload_n dX12_mark_34 hl37 ?_
          refine q_bipush dX12_mark_35 (by decide +kernel) ?_
          intro v47 h48
          refine q_icmp_ge 66 dX12_mark_37 (by decide) (fun h49 => ?_) (fun h49 => ?_)
          · skip
            refine tr_aload_n dX12_mark_66 hl36 ?_
            refine tr_dup dX12_mark_67 rfl ?_
            refine q_getI dX12_mark_68 fl12_390 (kR15 hS39.1 ta0) c41 ?_
            refine q_iconst dX12_mark_71 (by decide) ?_
            intro v50 h51
            refine q_iaddE dX12_mark_72 (by intros; omega) ?_
            intro v52 h53
            refine q_putI dX12_mark_73 fl12_390 (kR15 hS39.1 ta0) (Or.inl rfl) hS39 ta0 (by show (0 : Int) ≤ v52.toInt ∧ v52.toInt ≤ (3 : Int); omega) rfl (by decide +kernel) ?_
            intro I54 hS55 e56 f57
            refine tr_aload_n dX12_mark_76 hl36 ?_
            refine tr_aload_n dX12_mark_77 hl36 ?_
            refine q_getI dX12_mark_78 fl12_390 (kR15 hS55.1 ta0) e56 ?_
            refine q_iconst dX12_mark_81 (by decide) ?_
            intro v58 h59
            refine q_isubE dX12_mark_82 (by intros; omega) ?_
            intro v60 h61
            refine q_callVi hE (M' := mX12_good) (as := [_]) dX12_mark_83 lk12_81 inX12_good seX12_good myX12_good (by decide) ⟨by decide, by decide⟩ rfl (kR15 hS55.1 ta0) (Nat.le_of_ble_eq_true rfl) rfl rfl (by decide) (by decide) (k_X12_good hS55.1 ta0) ?_
            rintro v66 cn' K' N' I62 R63 L64 ⟨rfl, rfl, rfl, rfl, rfl, g65, p67, -⟩
            have hS68 := hS55.tr g65 (by decide +kernel) (by decide +kernel)
            have c69 : I62 a0 20 = v52 := (g65.cell ta0 (by decide +kernel)).trans e56
            obtain ⟨v70, c71⟩ : ∃ v, I62 a0 2 = v := ⟨_, rfl⟩
            rw [c71] at p67
            exact tr_iret hZ dX12_mark_86 rfl (by decide) (by decide) ⟨v66, rfl, rfl, rfl, rfl, rfl, rfl, hS68, (by (try rw [c71]); (try omega)), trivial⟩
          · skip
            refine tr_aload_n dX12_mark_40 hl36 ?_
            obtain ⟨a72, d73, ta72⟩ := rf15_18 hW0 ta0
            refine tr_getR dX12_mark_41 fl12_24 (kR15 hS39.1 ta0) d73 ?_
            refine q_bipush dX12_mark_44 (by decide +kernel) ?_
            intro v74 h75
            refine tr_aload_n dX12_mark_46 hl36 ?_
            refine q_getI dX12_mark_47 fl12_390 (kR15 hS39.1 ta0) c41 ?_
            refine q_imulE (c := 15) dX12_mark_50 (by omega) (by omega) ?_
            intro v76 h77
            refine tr_iload_n dX12_mark_51 hl37 ?_
            refine q_iaddE dX12_mark_52 (by intros; omega) ?_
            intro v78 h79
            refine tr_aload_n dX12_mark_53 hl36 ?_
            obtain ⟨a80, d81, ta80⟩ := rf15_16 hW0 ta0
            refine tr_getR dX12_mark_54 fl12_17 (kR15 hS39.1 ta0) d81 ?_
            refine tr_iload_n dX12_mark_57 hl37 ?_
            refine q_iald dX12_mark_58 (kR77 hS39.1 ta80) (ti_in (nR77 hS39.1 ta80) (by omega) (by omega)) ?_
            intro v82 c83
            refine q_iast dX12_mark_59 (kR79 hS39.1 ta72) (ti_in (nR79 hS39.1 ta72) (by omega) (by omega)) hS39 ta72 (iok_w (r := 77) rfl rfl (by have q := ti_nat (i := v78) (by omega); have q2 := ti_nat (i := v35) (by omega); omega) (hS39.1.iv ta80 c83)) rfl (by rfl) ?_
            intro I85 hS86 e88 f87
            have c89 : I85 a0 20 = v40 := (f87 _ _ (fun q => by have z := ta0; rw [q.1, ta72] at z; exact absurd z (by decide))).trans c41
            refine q_iincE dX12_mark_60 hl37 (by decide) (by decide) (by intros; omega) ?_
            intro v90 h91
            refine tr_goto 34 dX12_mark_63 (by decide) ?_
            exact ih44 _ v90 I85 v40 hl36 rfl hS86 c89 (by omega) (by omega) (by omega)
      exact lp44 _ _ v33 I23 v27 rfl rfl hS24 c28 (by omega) (by omega) (Nat.lt_succ_self _)
    · skip
      refine tr_aload_n dX12_mark_26 rfl ?_
      refine q_iconst dX12_mark_27 (by decide) ?_
      intro v92 h93
      refine q_callVi hE (M' := mX12_refused) (as := [_]) dX12_mark_28 lk12_76 inX12_refused seX12_refused myX12_refused (by decide) ⟨by decide, by decide⟩ rfl (kR15 hS24.1 ta0) (Nat.le_of_ble_eq_true rfl) rfl rfl (by decide) (by decide) (k_X12_refused hS24.1 ta0) ?_
      rintro v98 cn' K' N' I94 R95 L96 ⟨rfl, rfl, rfl, rfl, rfl, g97, p99, -⟩
      have hS100 := hS24.tr g97 (by decide +kernel) (by decide +kernel)
      have c101 : I94 a0 0 = v21 := (g97.cell ta0 (by decide +kernel)).trans e25
      have c102 : I94 a0 20 = v27 := (g97.cell ta0 (by decide +kernel)).trans c28
      obtain ⟨v103, c104⟩ : ∃ v, I94 a0 2 = v := ⟨_, rfl⟩
      rw [c104] at p99
      exact tr_iret hZ dX12_mark_31 rfl (by decide) (by decide) ⟨v98, rfl, rfl, rfl, rfl, rfl, rfl, hS100, (by (try rw [c104]); (try omega)), trivial⟩
def wi_X12_back : List Nat := [960, 961, 962, 979, 4991]
def wr_X12_back : List Nat := []
set_option maxHeartbeats 4000000 in
theorem k_X12_back {l : Launch} {T : Nat → Nat} {cn : Nat} {K N : Nat → Nat} {I0 : cz_I} {R0 : cz_R} {L0 : cz_L} {d : Int} (hW0 : Wf T cn K N I0 R0 d) {a0 : Nat} (ta0 : T a0 = 15) {x1 : Int32} : ConE l mX12_back [.ref a0, .int x1] cn K N I0 R0 L0 (ca_i (fun v cn' K' N' I' R' L' => cn = cn' ∧ K = K' ∧ N = N' ∧ R0 = R' ∧ L0 = L' ∧ St T cn K N d wi_X12_back wr_X12_back I0 R0 I' R0 ∧ (0 ≤ v.toInt ∧ v.toInt ≤ 1) ∧ ((I' a0 2).toInt = -1) ∧ True)) := by
  refine ConE.of (by decide +kernel) rfl (Nat.le_of_ble_eq_true rfl) rfl (fun X hX hZ hE => ?_)
  subst hX
  have hS0 : St T cn K N d wi_X12_back wr_X12_back I0 R0 I0 R0 := St.rf0 hW0
  rcases rf15_3 hW0 ta0 with d2 | ⟨a1, d2, ta1⟩
  · skip
    refine tr_aload_n dX12_back_0 rfl ?_
    refine q_iconst dX12_back_1 (by decide) ?_
    intro v3 h4
    refine q_putI dX12_back_2 fl12_70 (kR15 hS0.1 ta0) (Or.inl rfl) hS0 ta0 (iokF rfl) rfl (by decide +kernel) ?_
    intro I5 hS6 e7 f8
    refine tr_aload_n dX12_back_5 rfl ?_
    refine tr_getN dX12_back_6 fl12_385 (kR15 hS6.1 ta0) d2 ?_
    refine tr_ifnullN 24 dX12_back_9 (by decide) ?_
    refine tr_aload_n dX12_back_24 rfl ?_
    refine q_iconst dX12_back_25 (by decide) ?_
    intro v9 h10
    refine q_callVi hE (M' := mX12_denied) (as := [_]) dX12_back_26 lk12_507 inX12_denied seX12_denied myX12_denied (by decide) ⟨by decide, by decide⟩ rfl (kR15 hS6.1 ta0) (Nat.le_of_ble_eq_true rfl) rfl rfl (by decide) (by decide) (k_X12_denied hS6.1 ta0) ?_
    rintro v15 cn' K' N' I11 R12 L13 ⟨rfl, rfl, rfl, rfl, rfl, g14, h16, p17, -⟩
    have hS18 := hS6.tr g14 (by decide +kernel) (by decide +kernel)
    have c19 : I11 a0 0 = v3 := (g14.cell ta0 (by decide +kernel)).trans e7
    obtain ⟨v20, c21⟩ : ∃ v, I11 a0 2 = v := ⟨_, rfl⟩
    rw [c21] at p17
    exact tr_zret hZ dX12_back_29 rfl (ti_b01 (by omega) (by omega)) (by decide) (by decide) ⟨v15, rfl, rfl, rfl, rfl, rfl, rfl, hS18, (by omega), (by (try rw [c21]); (try omega)), trivial⟩
  · skip
    refine tr_aload_n dX12_back_0 rfl ?_
    refine q_iconst dX12_back_1 (by decide) ?_
    intro v22 h23
    refine q_putI dX12_back_2 fl12_70 (kR15 hS0.1 ta0) (Or.inl rfl) hS0 ta0 (iokF rfl) rfl (by decide +kernel) ?_
    intro I24 hS25 e26 f27
    refine tr_aload_n dX12_back_5 rfl ?_
    refine tr_getR dX12_back_6 fl12_385 (kR15 hS25.1 ta0) d2 ?_
    refine tr_ifnull dX12_back_9 ?_
    refine tr_iload_n dX12_back_12 rfl ?_
    refine q_if_lt 24 dX12_back_13 (by decide) (fun h28 => ?_) (fun h28 => ?_)
    · skip
      refine tr_aload_n dX12_back_24 rfl ?_
      refine q_iconst dX12_back_25 (by decide) ?_
      intro v29 h30
      refine q_callVi hE (M' := mX12_denied) (as := [_]) dX12_back_26 lk12_507 inX12_denied seX12_denied myX12_denied (by decide) ⟨by decide, by decide⟩ rfl (kR15 hS25.1 ta0) (Nat.le_of_ble_eq_true rfl) rfl rfl (by decide) (by decide) (k_X12_denied hS25.1 ta0) ?_
      rintro v35 cn' K' N' I31 R32 L33 ⟨rfl, rfl, rfl, rfl, rfl, g34, h36, p37, -⟩
      have hS38 := hS25.tr g34 (by decide +kernel) (by decide +kernel)
      have c39 : I31 a0 0 = v22 := (g34.cell ta0 (by decide +kernel)).trans e26
      obtain ⟨v40, c41⟩ : ∃ v, I31 a0 2 = v := ⟨_, rfl⟩
      rw [c41] at p37
      exact tr_zret hZ dX12_back_29 rfl (ti_b01 (by omega) (by omega)) (by decide) (by decide) ⟨v35, rfl, rfl, rfl, rfl, rfl, rfl, hS38, (by omega), (by (try rw [c41]); (try omega)), trivial⟩
    · skip
      refine tr_iload_n dX12_back_16 rfl ?_
      refine tr_aload_n dX12_back_17 rfl ?_
      obtain ⟨v42, c43⟩ : ∃ v, I0 a0 20 = v := ⟨_, rfl⟩
      have b44 := iv15_20 hW0 ta0 c43
      refine q_getI dX12_back_18 fl12_390 (kR15 hS25.1 ta0) ((hS25.cell ta0 (by decide +kernel)).trans c43) ?_
      refine q_icmp_lt 30 dX12_back_21 (by decide) (fun h45 => ?_) (fun h45 => ?_)
      · skip
        refine q_iconst dX12_back_30 (by decide) ?_
        intro v46 h47
        refine tr_istore_n dX12_back_31 (by decide) (by decide) ?_
        have lp55 : ∀ (fu : Nat) (ls : Nat → Option Value) (v48 : Int32) (I52 : cz_I), ls 0 = some (.ref a0) → ls 1 = some (.int x1) → ls 2 = some (.int v48) → St T cn K N d wi_X12_back wr_X12_back I0 R0 I52 R0 → 0 ≤ v48.toInt → (-v48.toInt + 2147483647).toNat < fu → Tr X mX12_back 32 ls [] cn K N I52 R0 L0 0 0 := by
          intro fu
          induction fu with
          | zero => intros; rename_i hz; exact absurd hz (Nat.not_lt_zero _)
          | succ fu ih55 =>
            intro ls v48 I52 hl49 hl50 hl51 hS53 g54 hm55
            refine tr_iload_n dX12_back_32 hl51 ?_
            refine q_bipush dX12_back_33 (by decide +kernel) ?_
            intro v57 h58
            refine q_icmp_ge 61 dX12_back_35 (by decide) (fun h59 => ?_) (fun h59 => ?_)
            · skip
              refine tr_aload_n dX12_back_61 hl49 ?_
              refine q_iconst dX12_back_62 (by decide) ?_
              intro v60 h61
              refine q_putI dX12_back_63 fl12_387 (kR15 hS53.1 ta0) (Or.inl rfl) hS53 ta0 (by show (0 : Int) ≤ v60.toInt ∧ v60.toInt ≤ (12 : Int); omega) rfl (by decide +kernel) ?_
              intro I62 hS63 e64 f65
              refine tr_aload_n dX12_back_66 hl49 ?_
              refine q_callVi hE (M' := mX12_granted) (as := []) dX12_back_67 lk12_513 inX12_granted seX12_granted myX12_granted (by decide) ⟨by decide, by decide⟩ rfl (kR15 hS63.1 ta0) (Nat.le_of_ble_eq_true rfl) rfl rfl (by decide) (by decide) (k_X12_granted hS63.1 ta0) ?_
              rintro v70 cn' K' N' I66 R67 L68 ⟨rfl, rfl, rfl, rfl, rfl, g69, h71, p72, -⟩
              have hS73 := hS63.tr g69 (by decide +kernel) (by decide +kernel)
              have c74 : I66 a0 19 = v60 := (g69.cell ta0 (by decide +kernel)).trans e64
              obtain ⟨v75, c76⟩ : ∃ v, I66 a0 2 = v := ⟨_, rfl⟩
              rw [c76] at p72
              exact tr_zret hZ dX12_back_70 rfl (ti_b01 (by omega) (by omega)) (by decide) (by decide) ⟨v70, rfl, rfl, rfl, rfl, rfl, rfl, hS73, (by omega), (by (try rw [c76]); (try omega)), trivial⟩
            · skip
              refine tr_aload_n dX12_back_38 hl49 ?_
              obtain ⟨a77, d78, ta77⟩ := rf15_16 hW0 ta0
              refine tr_getR dX12_back_39 fl12_17 (kR15 hS53.1 ta0) d78 ?_
              refine tr_iload_n dX12_back_42 hl51 ?_
              refine tr_aload_n dX12_back_43 hl49 ?_
              obtain ⟨a79, d80, ta79⟩ := rf15_18 hW0 ta0
              refine tr_getR dX12_back_44 fl12_24 (kR15 hS53.1 ta0) d80 ?_
              refine q_bipush dX12_back_47 (by decide +kernel) ?_
              intro v81 h82
              refine tr_iload_n dX12_back_49 hl50 ?_
              refine q_imulE (c := 15) dX12_back_50 (by omega) (by omega) ?_
              intro v83 h84
              refine tr_iload_n dX12_back_51 hl51 ?_
              refine q_iaddE dX12_back_52 (by intros; omega) ?_
              intro v85 h86
              refine q_iald dX12_back_53 (kR79 hS53.1 ta79) (ti_in (nR79 hS53.1 ta79) (by omega) (by omega)) ?_
              intro v87 c88
              refine q_iast dX12_back_54 (kR77 hS53.1 ta77) (ti_in (nR77 hS53.1 ta77) (by omega) (by omega)) hS53 ta77 (iok_w (r := 79) rfl rfl (by have q := ti_nat (i := v48) (by omega); have q2 := ti_nat (i := v85) (by omega); omega) (hS53.1.iv ta79 c88)) rfl (by rfl) ?_
              intro I90 hS91 e93 f92
              refine q_iincE dX12_back_55 hl51 (by decide) (by decide) (by intros; omega) ?_
              intro v94 h95
              refine tr_goto 32 dX12_back_58 (by decide) ?_
              exact ih55 _ v94 I90 hl49 hl50 rfl hS91 (by omega) (by omega)
        exact lp55 _ _ v46 I24 rfl rfl rfl hS25 (by omega) (Nat.lt_succ_self _)
      · skip
        refine tr_aload_n dX12_back_24 rfl ?_
        refine q_iconst dX12_back_25 (by decide) ?_
        intro v96 h97
        refine q_callVi hE (M' := mX12_denied) (as := [_]) dX12_back_26 lk12_507 inX12_denied seX12_denied myX12_denied (by decide) ⟨by decide, by decide⟩ rfl (kR15 hS25.1 ta0) (Nat.le_of_ble_eq_true rfl) rfl rfl (by decide) (by decide) (k_X12_denied hS25.1 ta0) ?_
        rintro v102 cn' K' N' I98 R99 L100 ⟨rfl, rfl, rfl, rfl, rfl, g101, h103, p104, -⟩
        have hS105 := hS25.tr g101 (by decide +kernel) (by decide +kernel)
        have c106 : I98 a0 0 = v22 := (g101.cell ta0 (by decide +kernel)).trans e26
        obtain ⟨v107, c108⟩ : ∃ v, I98 a0 2 = v := ⟨_, rfl⟩
        rw [c108] at p104
        exact tr_zret hZ dX12_back_29 rfl (ti_b01 (by omega) (by omega)) (by decide) (by decide) ⟨v102, rfl, rfl, rfl, rfl, rfl, rfl, hS105, (by omega), (by (try rw [c108]); (try omega)), trivial⟩
def wi_X12_event : List Nat := [960, 961, 962]
def wr_X12_event : List Nat := []
set_option maxHeartbeats 4000000 in
theorem k_X12_event {l : Launch} {T : Nat → Nat} {cn : Nat} {K N : Nat → Nat} {I0 : cz_I} {R0 : cz_R} {L0 : cz_L} {d : Int} (hW0 : Wf T cn K N I0 R0 d) {a0 : Nat} (ta0 : T a0 = 15) {x1 : Int32} {x2 : Int32} : ConE l mX12_event [.ref a0, .int x1, .int x2] cn K N I0 R0 L0 (ca_i (fun v cn' K' N' I' R' L' => cn = cn' ∧ K = K' ∧ N = N' ∧ R0 = R' ∧ L0 = L' ∧ St T cn K N d wi_X12_event wr_X12_event I0 R0 I' R0 ∧ ((I' a0 2).toInt = -1) ∧ True)) := by
  refine ConE.of (by decide +kernel) rfl (Nat.le_of_ble_eq_true rfl) rfl (fun X hX hZ hE => ?_)
  subst hX
  have hS0 : St T cn K N d wi_X12_event wr_X12_event I0 R0 I0 R0 := St.rf0 hW0
  rcases rf15_3 hW0 ta0 with d2 | ⟨a1, d2, ta1⟩
  · skip
    refine tr_aload_n dX12_event_0 rfl ?_
    refine q_iconst dX12_event_1 (by decide) ?_
    intro v3 h4
    refine q_putI dX12_event_2 fl12_70 (kR15 hS0.1 ta0) (Or.inl rfl) hS0 ta0 (iokF rfl) rfl (by decide +kernel) ?_
    intro I5 hS6 e7 f8
    refine tr_aload_n dX12_event_5 rfl ?_
    refine tr_iload_n dX12_event_6 rfl ?_
    obtain ⟨a9, d10, ta9⟩ := rf15_16 hW0 ta0
    obtain ⟨v11, c12⟩ : ∃ v, I0 a9 1 = v := ⟨_, rfl⟩
    have b13 := iv77_1 hW0 ta9 (by decide) c12
    refine q_callVi hE (M' := mX12_isEvent) (as := [_]) dX12_event_7 lk12_467 inX12_isEvent seX12_isEvent myX12_isEvent (by decide) ⟨by decide, by decide⟩ rfl (kR15 hS6.1 ta0) (Nat.le_of_ble_eq_true rfl) rfl rfl (by decide) (by decide) (k_X12_isEvent hS6.1 ta0) ?_
    rintro v18 cn' K' N' I14 R15 L16 ⟨rfl, rfl, rfl, rfl, rfl, rfl, h19, p20, p21, -⟩
    have p22 := (p21 d2)
    refine q_if_eq 22 dX12_event_10 (by decide) (fun h23 => ?_) (fun h23 => ?_)
    · skip
      refine tr_aload_n dX12_event_22 rfl ?_
      refine q_iconst dX12_event_23 (by decide) ?_
      intro v24 h25
      refine q_callVi hE (M' := mX12_refused) (as := [_]) dX12_event_24 lk12_76 inX12_refused seX12_refused myX12_refused (by decide) ⟨by decide, by decide⟩ rfl (kR15 hS6.1 ta0) (Nat.le_of_ble_eq_true rfl) rfl rfl (by decide) (by decide) (k_X12_refused hS6.1 ta0) ?_
      rintro v30 cn' K' N' I26 R27 L28 ⟨rfl, rfl, rfl, rfl, rfl, g29, p31, -⟩
      have hS32 := hS6.tr g29 (by decide +kernel) (by decide +kernel)
      have c33 : I26 a0 0 = v3 := (g29.cell ta0 (by decide +kernel)).trans e7
      obtain ⟨v34, c35⟩ : ∃ v, I26 a0 2 = v := ⟨_, rfl⟩
      rw [c35] at p31
      exact tr_iret hZ dX12_event_27 rfl (by decide) (by decide) ⟨v30, rfl, rfl, rfl, rfl, rfl, rfl, hS32, (by (try rw [c35]); (try omega)), trivial⟩
    · skip
      exfalso; omega
  · skip
    refine tr_aload_n dX12_event_0 rfl ?_
    refine q_iconst dX12_event_1 (by decide) ?_
    intro v36 h37
    refine q_putI dX12_event_2 fl12_70 (kR15 hS0.1 ta0) (Or.inl rfl) hS0 ta0 (iokF rfl) rfl (by decide +kernel) ?_
    intro I38 hS39 e40 f41
    refine tr_aload_n dX12_event_5 rfl ?_
    refine tr_iload_n dX12_event_6 rfl ?_
    obtain ⟨v42, c43⟩ : ∃ v, I0 a1 2 = v := ⟨_, rfl⟩
    have b44 := iv14_2 hW0 ta1 c43
    obtain ⟨a45, d46, ta45⟩ := rf15_16 hW0 ta0
    obtain ⟨v47, c48⟩ : ∃ v, I0 a45 1 = v := ⟨_, rfl⟩
    have b49 := iv77_1 hW0 ta45 (by decide) c48
    refine q_callVi hE (M' := mX12_isEvent) (as := [_]) dX12_event_7 lk12_467 inX12_isEvent seX12_isEvent myX12_isEvent (by decide) ⟨by decide, by decide⟩ rfl (kR15 hS39.1 ta0) (Nat.le_of_ble_eq_true rfl) rfl rfl (by decide) (by decide) (k_X12_isEvent hS39.1 ta0) ?_
    rintro v54 cn' K' N' I50 R51 L52 ⟨rfl, rfl, rfl, rfl, rfl, rfl, h55, p56, p57, -⟩
    have p58 := p56 _ d2 _ d46
    clear p56
    rw [((hS39.cell ta1 (by decide +kernel)).trans c43)] at p58
    rw [((hS39.cell ta45 (by decide +kernel)).trans c48)] at p58
    refine q_if_eq 22 dX12_event_10 (by decide) (fun h59 => ?_) (fun h59 => ?_)
    · skip
      refine tr_aload_n dX12_event_22 rfl ?_
      refine q_iconst dX12_event_23 (by decide) ?_
      intro v60 h61
      refine q_callVi hE (M' := mX12_refused) (as := [_]) dX12_event_24 lk12_76 inX12_refused seX12_refused myX12_refused (by decide) ⟨by decide, by decide⟩ rfl (kR15 hS39.1 ta0) (Nat.le_of_ble_eq_true rfl) rfl rfl (by decide) (by decide) (k_X12_refused hS39.1 ta0) ?_
      rintro v66 cn' K' N' I62 R63 L64 ⟨rfl, rfl, rfl, rfl, rfl, g65, p67, -⟩
      have hS68 := hS39.tr g65 (by decide +kernel) (by decide +kernel)
      have c69 : I62 a0 0 = v36 := (g65.cell ta0 (by decide +kernel)).trans e40
      obtain ⟨v70, c71⟩ : ∃ v, I62 a0 2 = v := ⟨_, rfl⟩
      rw [c71] at p67
      exact tr_iret hZ dX12_event_27 rfl (by decide) (by decide) ⟨v66, rfl, rfl, rfl, rfl, rfl, rfl, hS68, (by (try rw [c71]); (try omega)), trivial⟩
    · skip
      refine tr_iload_n dX12_event_13 rfl ?_
      refine q_iconst dX12_event_14 (by decide) ?_
      intro v72 h73
      refine q_iconst dX12_event_15 (by decide) ?_
      intro v74 h75
      refine q_callSi hE (M' := mX12_in) (as := [_, _, _]) dX12_event_16 lk12_149 inX12_in myX12_in ⟨by decide, by decide⟩ rfl (Nat.le_of_ble_eq_true rfl) rfl rfl (by decide) (by decide) (k_X12_in hS39.1 ) ?_
      rintro v80 cn' K' N' I76 R77 L78 ⟨rfl, rfl, rfl, rfl, rfl, rfl, h81, p82, p83, -⟩
      refine q_if_ne 28 dX12_event_19 (by decide) (fun h84 => ?_) (fun h84 => ?_)
      · skip
        refine tr_aload_n dX12_event_28 rfl ?_
        refine tr_iload_n dX12_event_29 rfl ?_
        refine q_if_ne 41 dX12_event_30 (by decide) (fun h85 => ?_) (fun h85 => ?_)
        · skip
          refine tr_iload_n dX12_event_41 rfl ?_
          refine q_iconst dX12_event_42 (by decide) ?_
          intro v86 h87
          refine q_icmp_ne 54 dX12_event_43 (by decide) (fun h88 => ?_) (fun h88 => ?_)
          · skip
            refine tr_iload_n dX12_event_54 rfl ?_
            refine q_iconst dX12_event_55 (by decide) ?_
            intro v89 h90
            refine q_icmp_ne 67 dX12_event_56 (by decide) (fun h91 => ?_) (fun h91 => ?_)
            · skip
              refine tr_aload_n dX12_event_67 rfl ?_
              refine tr_iload_n dX12_event_68 rfl ?_
              refine q_callVi hE (M' := mX12_toOf) (as := [_]) dX12_event_69 lk12_398 inX12_toOf seX12_toOf myX12_toOf (by decide) ⟨by decide, by decide⟩ rfl (kR15 hS39.1 ta0) (Nat.le_of_ble_eq_true rfl) rfl rfl (by decide) (by decide) (k_X12_toOf hS39.1 ta0 (by omega) (fun q0 z0 => fun q1 z1 => by obtain rfl := Option.some.inj ((d2).symm.trans z0); obtain rfl := Option.some.inj ((d46).symm.trans z1); (try rw [((hS39.cell ta1 (by decide +kernel)).trans c43)]); (try rw [((hS39.cell ta45 (by decide +kernel)).trans c48)]); (try omega)) ⟨_, d2⟩) ?_
              rintro v96 cn' K' N' I92 R93 L94 ⟨rfl, rfl, rfl, rfl, rfl, rfl, h97, -⟩
              refine q_callVi hE (M' := mX12_good) (as := [_]) dX12_event_72 lk12_81 inX12_good seX12_good myX12_good (by decide) ⟨by decide, by decide⟩ rfl (kR15 hS39.1 ta0) (Nat.le_of_ble_eq_true rfl) rfl rfl (by decide) (by decide) (k_X12_good hS39.1 ta0) ?_
              rintro v102 cn' K' N' I98 R99 L100 ⟨rfl, rfl, rfl, rfl, rfl, g101, p103, -⟩
              have hS104 := hS39.tr g101 (by decide +kernel) (by decide +kernel)
              have c105 : I98 a0 0 = v36 := (g101.cell ta0 (by decide +kernel)).trans e40
              obtain ⟨v106, c107⟩ : ∃ v, I98 a0 2 = v := ⟨_, rfl⟩
              rw [c107] at p103
              exact tr_iret hZ dX12_event_75 rfl (by decide) (by decide) ⟨v102, rfl, rfl, rfl, rfl, rfl, rfl, hS104, (by (try rw [c107]); (try omega)), trivial⟩
            · skip
              refine tr_aload_n dX12_event_59 rfl ?_
              refine tr_iload_n dX12_event_60 rfl ?_
              refine q_callVi hE (M' := mX12_fromOf) (as := [_]) dX12_event_61 lk12_395 inX12_fromOf seX12_fromOf myX12_fromOf (by decide) ⟨by decide, by decide⟩ rfl (kR15 hS39.1 ta0) (Nat.le_of_ble_eq_true rfl) rfl rfl (by decide) (by decide) (k_X12_fromOf hS39.1 ta0 (by omega) (fun q0 z0 => fun q1 z1 => by obtain rfl := Option.some.inj ((d2).symm.trans z0); obtain rfl := Option.some.inj ((d46).symm.trans z1); (try rw [((hS39.cell ta1 (by decide +kernel)).trans c43)]); (try rw [((hS39.cell ta45 (by decide +kernel)).trans c48)]); (try omega)) ⟨_, d2⟩) ?_
              rintro v112 cn' K' N' I108 R109 L110 ⟨rfl, rfl, rfl, rfl, rfl, rfl, h113, -⟩
              refine tr_goto 72 dX12_event_64 (by decide) ?_
              refine q_callVi hE (M' := mX12_good) (as := [_]) dX12_event_72 lk12_81 inX12_good seX12_good myX12_good (by decide) ⟨by decide, by decide⟩ rfl (kR15 hS39.1 ta0) (Nat.le_of_ble_eq_true rfl) rfl rfl (by decide) (by decide) (k_X12_good hS39.1 ta0) ?_
              rintro v118 cn' K' N' I114 R115 L116 ⟨rfl, rfl, rfl, rfl, rfl, g117, p119, -⟩
              have hS120 := hS39.tr g117 (by decide +kernel) (by decide +kernel)
              have c121 : I114 a0 0 = v36 := (g117.cell ta0 (by decide +kernel)).trans e40
              obtain ⟨v122, c123⟩ : ∃ v, I114 a0 2 = v := ⟨_, rfl⟩
              rw [c123] at p119
              exact tr_iret hZ dX12_event_75 rfl (by decide) (by decide) ⟨v118, rfl, rfl, rfl, rfl, rfl, rfl, hS120, (by (try rw [c123]); (try omega)), trivial⟩
          · skip
            refine tr_aload_n dX12_event_46 rfl ?_
            refine tr_iload_n dX12_event_47 rfl ?_
            refine q_callVi hE (M' := mX12_hutOf) (as := [_]) dX12_event_48 lk12_407 inX12_hutOf seX12_hutOf myX12_hutOf (by decide) ⟨by decide, by decide⟩ rfl (kR15 hS39.1 ta0) (Nat.le_of_ble_eq_true rfl) rfl rfl (by decide) (by decide) (k_X12_hutOf hS39.1 ta0 (by omega) ⟨_, d2⟩) ?_
            rintro v128 cn' K' N' I124 R125 L126 ⟨rfl, rfl, rfl, rfl, rfl, rfl, h129, r130, -⟩
            refine tr_goto 72 dX12_event_51 (by decide) ?_
            refine q_callVi hE (M' := mX12_good) (as := [_]) dX12_event_72 lk12_81 inX12_good seX12_good myX12_good (by decide) ⟨by decide, by decide⟩ rfl (kR15 hS39.1 ta0) (Nat.le_of_ble_eq_true rfl) rfl rfl (by decide) (by decide) (k_X12_good hS39.1 ta0) ?_
            rintro v135 cn' K' N' I131 R132 L133 ⟨rfl, rfl, rfl, rfl, rfl, g134, p136, -⟩
            have hS137 := hS39.tr g134 (by decide +kernel) (by decide +kernel)
            have c138 : I131 a0 0 = v36 := (g134.cell ta0 (by decide +kernel)).trans e40
            obtain ⟨v139, c140⟩ : ∃ v, I131 a0 2 = v := ⟨_, rfl⟩
            rw [c140] at p136
            exact tr_iret hZ dX12_event_75 rfl (by decide) (by decide) ⟨v135, rfl, rfl, rfl, rfl, rfl, rfl, hS137, (by (try rw [c140]); (try omega)), trivial⟩
        · skip
          refine tr_aload_n dX12_event_33 rfl ?_
          refine tr_iload_n dX12_event_34 rfl ?_
          refine q_callVi hE (M' := mX12_kindOf) (as := [_]) dX12_event_35 lk12_404 inX12_kindOf seX12_kindOf myX12_kindOf (by decide) ⟨by decide, by decide⟩ rfl (kR15 hS39.1 ta0) (Nat.le_of_ble_eq_true rfl) rfl rfl (by decide) (by decide) (k_X12_kindOf hS39.1 ta0 (by omega) ⟨_, d2⟩) ?_
          rintro v145 cn' K' N' I141 R142 L143 ⟨rfl, rfl, rfl, rfl, rfl, rfl, r146, -⟩
          refine tr_goto 72 dX12_event_38 (by decide) ?_
          refine q_callVi hE (M' := mX12_good) (as := [_]) dX12_event_72 lk12_81 inX12_good seX12_good myX12_good (by decide) ⟨by decide, by decide⟩ rfl (kR15 hS39.1 ta0) (Nat.le_of_ble_eq_true rfl) rfl rfl (by decide) (by decide) (k_X12_good hS39.1 ta0) ?_
          rintro v151 cn' K' N' I147 R148 L149 ⟨rfl, rfl, rfl, rfl, rfl, g150, p152, -⟩
          have hS153 := hS39.tr g150 (by decide +kernel) (by decide +kernel)
          have c154 : I147 a0 0 = v36 := (g150.cell ta0 (by decide +kernel)).trans e40
          obtain ⟨v155, c156⟩ : ∃ v, I147 a0 2 = v := ⟨_, rfl⟩
          rw [c156] at p152
          exact tr_iret hZ dX12_event_75 rfl (by decide) (by decide) ⟨v151, rfl, rfl, rfl, rfl, rfl, rfl, hS153, (by (try rw [c156]); (try omega)), trivial⟩
      · skip
        refine tr_aload_n dX12_event_22 rfl ?_
        refine q_iconst dX12_event_23 (by decide) ?_
        intro v157 h158
        refine q_callVi hE (M' := mX12_refused) (as := [_]) dX12_event_24 lk12_76 inX12_refused seX12_refused myX12_refused (by decide) ⟨by decide, by decide⟩ rfl (kR15 hS39.1 ta0) (Nat.le_of_ble_eq_true rfl) rfl rfl (by decide) (by decide) (k_X12_refused hS39.1 ta0) ?_
        rintro v163 cn' K' N' I159 R160 L161 ⟨rfl, rfl, rfl, rfl, rfl, g162, p164, -⟩
        have hS165 := hS39.tr g162 (by decide +kernel) (by decide +kernel)
        have c166 : I159 a0 0 = v36 := (g162.cell ta0 (by decide +kernel)).trans e40
        obtain ⟨v167, c168⟩ : ∃ v, I159 a0 2 = v := ⟨_, rfl⟩
        rw [c168] at p164
        exact tr_iret hZ dX12_event_27 rfl (by decide) (by decide) ⟨v163, rfl, rfl, rfl, rfl, rfl, rfl, hS165, (by (try rw [c168]); (try omega)), trivial⟩
def wi_X12_size : List Nat := [960]
def wr_X12_size : List Nat := []
set_option maxHeartbeats 4000000 in
theorem k_X12_size {l : Launch} {T : Nat → Nat} {cn : Nat} {K N : Nat → Nat} {I0 : cz_I} {R0 : cz_R} {L0 : cz_L} {d : Int} (hW0 : Wf T cn K N I0 R0 d) {a0 : Nat} (ta0 : T a0 = 15) {x1 : Int32} : ConE l mX12_size [.ref a0, .int x1] cn K N I0 R0 L0 (ca_i (fun v cn' K' N' I' R' L' => cn = cn' ∧ K = K' ∧ N = N' ∧ R0 = R' ∧ L0 = L' ∧ St T cn K N d wi_X12_size wr_X12_size I0 R0 I' R0 ∧ True)) := by
  refine ConE.of (by decide +kernel) rfl (Nat.le_of_ble_eq_true rfl) rfl (fun X hX hZ hE => ?_)
  subst hX
  have hS0 : St T cn K N d wi_X12_size wr_X12_size I0 R0 I0 R0 := St.rf0 hW0
  rcases rf15_3 hW0 ta0 with d2 | ⟨a1, d2, ta1⟩
  · skip
    refine tr_aload_n dX12_size_0 rfl ?_
    refine q_iconst dX12_size_1 (by decide) ?_
    intro v3 h4
    refine q_putI dX12_size_2 fl12_70 (kR15 hS0.1 ta0) (Or.inl rfl) hS0 ta0 (iokF rfl) rfl (by decide +kernel) ?_
    intro I5 hS6 e7 f8
    refine tr_iload_n dX12_size_5 rfl ?_
    refine q_bipush dX12_size_6 (by decide +kernel) ?_
    intro v9 h10
    refine q_icmp_ne 16 dX12_size_8 (by decide) (fun h11 => ?_) (fun h11 => ?_)
    · skip
      refine tr_iload_n dX12_size_16 rfl ?_
      refine q_iconst dX12_size_17 (by decide) ?_
      intro v12 h13
      refine q_bipush dX12_size_18 (by decide +kernel) ?_
      intro v14 h15
      refine q_callSi hE (M' := mX12_in) (as := [_, _, _]) dX12_size_20 lk12_149 inX12_in myX12_in ⟨by decide, by decide⟩ rfl (Nat.le_of_ble_eq_true rfl) rfl rfl (by decide) (by decide) (k_X12_in hS6.1 ) ?_
      rintro v20 cn' K' N' I16 R17 L18 ⟨rfl, rfl, rfl, rfl, rfl, rfl, h21, p22, p23, -⟩
      refine q_if_ne 28 dX12_size_23 (by decide) (fun h24 => ?_) (fun h24 => ?_)
      · skip
        refine tr_aload_n dX12_size_28 rfl ?_
        refine tr_getN dX12_size_29 fl12_385 (kR15 hS6.1 ta0) d2 ?_
        refine tr_ifnonnullN dX12_size_32 ?_
        refine q_iconst dX12_size_35 (by decide) ?_
        intro v25 h26
        exact tr_iret hZ dX12_size_36 rfl (by decide) (by decide) ⟨v25, rfl, rfl, rfl, rfl, rfl, rfl, hS6, trivial⟩
      · skip
        refine q_iconst dX12_size_26 (by decide) ?_
        intro v27 h28
        exact tr_iret hZ dX12_size_27 rfl (by decide) (by decide) ⟨v27, rfl, rfl, rfl, rfl, rfl, rfl, hS6, trivial⟩
    · skip
      refine tr_aload_n dX12_size_11 rfl ?_
      obtain ⟨v29, c30⟩ : ∃ v, I0 a0 6 = v := ⟨_, rfl⟩
      have b31 := iv15_6 hW0 ta0 c30
      refine q_getI dX12_size_12 fl12_378 (kR15 hS6.1 ta0) ((hS6.cell ta0 (by decide +kernel)).trans c30) ?_
      exact tr_iret hZ dX12_size_15 rfl (by decide) (by decide) ⟨v29, rfl, rfl, rfl, rfl, rfl, rfl, hS6, trivial⟩
  · skip
    refine tr_aload_n dX12_size_0 rfl ?_
    refine q_iconst dX12_size_1 (by decide) ?_
    intro v32 h33
    refine q_putI dX12_size_2 fl12_70 (kR15 hS0.1 ta0) (Or.inl rfl) hS0 ta0 (iokF rfl) rfl (by decide +kernel) ?_
    intro I34 hS35 e36 f37
    refine tr_iload_n dX12_size_5 rfl ?_
    refine q_bipush dX12_size_6 (by decide +kernel) ?_
    intro v38 h39
    refine q_icmp_ne 16 dX12_size_8 (by decide) (fun h40 => ?_) (fun h40 => ?_)
    · skip
      refine tr_iload_n dX12_size_16 rfl ?_
      refine q_iconst dX12_size_17 (by decide) ?_
      intro v41 h42
      refine q_bipush dX12_size_18 (by decide +kernel) ?_
      intro v43 h44
      refine q_callSi hE (M' := mX12_in) (as := [_, _, _]) dX12_size_20 lk12_149 inX12_in myX12_in ⟨by decide, by decide⟩ rfl (Nat.le_of_ble_eq_true rfl) rfl rfl (by decide) (by decide) (k_X12_in hS35.1 ) ?_
      rintro v49 cn' K' N' I45 R46 L47 ⟨rfl, rfl, rfl, rfl, rfl, rfl, h50, p51, p52, -⟩
      refine q_if_ne 28 dX12_size_23 (by decide) (fun h53 => ?_) (fun h53 => ?_)
      · skip
        refine tr_aload_n dX12_size_28 rfl ?_
        refine tr_getR dX12_size_29 fl12_385 (kR15 hS35.1 ta0) d2 ?_
        refine tr_ifnonnull 37 dX12_size_32 (by decide) ?_
        refine tr_iload_n dX12_size_37 rfl ?_
        by_cases h54 : x1.toInt = 0
        · skip
          refine tr_tabIn (off := 58) 96 dX12_size_38 (by omega) (by omega) (by rw [h54]; decide +kernel) (by decide) ?_
          refine tr_aload_n dX12_size_96 rfl ?_
          refine tr_getR dX12_size_97 fl12_385 (kR15 hS35.1 ta0) d2 ?_
          obtain ⟨v55, c56⟩ : ∃ v, I0 a1 0 = v := ⟨_, rfl⟩
          have b57 := hW0.2.2.2.2.2.1 a0 ta0 _ d2
          rw [c56] at b57
          have b58 := iv14_0 hW0 ta1 c56
          refine q_getI dX12_size_100 fl12_192 (kR14 hS35.1 ta1) ((hS35.cell ta1 (by decide +kernel)).trans c56) ?_
          exact tr_iret hZ dX12_size_103 rfl (by decide) (by decide) ⟨v55, rfl, rfl, rfl, rfl, rfl, rfl, hS35, trivial⟩
        · skip
          by_cases h59 : x1.toInt = 1
          · skip
            refine tr_tabIn (off := 66) 104 dX12_size_38 (by omega) (by omega) (by rw [h59]; decide +kernel) (by decide) ?_
            refine tr_aload_n dX12_size_104 rfl ?_
            refine tr_getR dX12_size_105 fl12_385 (kR15 hS35.1 ta0) d2 ?_
            obtain ⟨v60, c61⟩ : ∃ v, I0 a1 1 = v := ⟨_, rfl⟩
            have b62 := iv14_1 hW0 ta1 c61
            refine q_getI dX12_size_108 fl12_263 (kR14 hS35.1 ta1) ((hS35.cell ta1 (by decide +kernel)).trans c61) ?_
            exact tr_iret hZ dX12_size_111 rfl (by decide) (by decide) ⟨v60, rfl, rfl, rfl, rfl, rfl, rfl, hS35, trivial⟩
          · skip
            by_cases h63 : x1.toInt = 2
            · skip
              refine tr_tabIn (off := 74) 112 dX12_size_38 (by omega) (by omega) (by rw [h63]; decide +kernel) (by decide) ?_
              refine tr_aload_n dX12_size_112 rfl ?_
              refine tr_getR dX12_size_113 fl12_385 (kR15 hS35.1 ta0) d2 ?_
              obtain ⟨v64, c65⟩ : ∃ v, I0 a1 2 = v := ⟨_, rfl⟩
              have b66 := iv14_2 hW0 ta1 c65
              refine q_getI dX12_size_116 fl12_265 (kR14 hS35.1 ta1) ((hS35.cell ta1 (by decide +kernel)).trans c65) ?_
              exact tr_iret hZ dX12_size_119 rfl (by decide) (by decide) ⟨v64, rfl, rfl, rfl, rfl, rfl, rfl, hS35, trivial⟩
            · skip
              by_cases h67 : x1.toInt = 3
              · skip
                refine tr_tabIn (off := 82) 120 dX12_size_38 (by omega) (by omega) (by rw [h67]; decide +kernel) (by decide) ?_
                refine tr_aload_n dX12_size_120 rfl ?_
                obtain ⟨a68, d69, ta68⟩ := rf15_16 hW0 ta0
                refine tr_getR dX12_size_121 fl12_17 (kR15 hS35.1 ta0) d69 ?_
                refine q_iconst dX12_size_124 (by decide) ?_
                intro v70 h71
                obtain ⟨v72, c73⟩ : ∃ v, I0 a68 1 = v := ⟨_, rfl⟩
                have b74 := iv77_1 hW0 ta68 (by decide) c73
                refine q_iald dX12_size_125 (kR77 hS35.1 ta68) (ti_in (nR77 hS35.1 ta68) (by omega) (by omega)) ?_
                intro v75 c76
                rw [show v70.toNatClampNeg = 1 from ti_cl (by omega)] at c76
                obtain rfl : v72 = v75 := (((hS35.cell ta68 (by decide +kernel)).trans c73)).symm.trans c76
                exact tr_iret hZ dX12_size_126 rfl (by decide) (by decide) ⟨v72, rfl, rfl, rfl, rfl, rfl, rfl, hS35, trivial⟩
              · skip
                by_cases h77 : x1.toInt = 4
                · skip
                  refine tr_tabIn (off := 89) 127 dX12_size_38 (by omega) (by omega) (by rw [h77]; decide +kernel) (by decide) ?_
                  refine tr_aload_n dX12_size_127 rfl ?_
                  refine tr_getR dX12_size_128 fl12_385 (kR15 hS35.1 ta0) d2 ?_
                  obtain ⟨v78, c79⟩ : ∃ v, I0 a1 3 = v := ⟨_, rfl⟩
                  have b80 := iv14_3 hW0 ta1 c79
                  refine q_getI dX12_size_131 fl12_224 (kR14 hS35.1 ta1) ((hS35.cell ta1 (by decide +kernel)).trans c79) ?_
                  exact tr_iret hZ dX12_size_134 rfl (by decide) (by decide) ⟨v78, rfl, rfl, rfl, rfl, rfl, rfl, hS35, trivial⟩
                · skip
                  by_cases h81 : x1.toInt = 5
                  · skip
                    refine tr_tabIn (off := 97) 135 dX12_size_38 (by omega) (by omega) (by rw [h81]; decide +kernel) (by decide) ?_
                    refine tr_aload_n dX12_size_135 rfl ?_
                    refine tr_getR dX12_size_136 fl12_385 (kR15 hS35.1 ta0) d2 ?_
                    obtain ⟨v82, c83⟩ : ∃ v, I0 a1 4 = v := ⟨_, rfl⟩
                    have b84 := iv14_4 hW0 ta1 c83
                    refine q_getI dX12_size_139 fl12_315 (kR14 hS35.1 ta1) ((hS35.cell ta1 (by decide +kernel)).trans c83) ?_
                    exact tr_iret hZ dX12_size_142 rfl (by decide) (by decide) ⟨v82, rfl, rfl, rfl, rfl, rfl, rfl, hS35, trivial⟩
                  · skip
                    by_cases h85 : x1.toInt = 6
                    · skip
                      refine tr_tabIn (off := 105) 143 dX12_size_38 (by omega) (by omega) (by rw [h85]; decide +kernel) (by decide) ?_
                      refine tr_aload_n dX12_size_143 rfl ?_
                      refine tr_getR dX12_size_144 fl12_385 (kR15 hS35.1 ta0) d2 ?_
                      obtain ⟨v86, c87⟩ : ∃ v, I0 a1 5 = v := ⟨_, rfl⟩
                      have b88 := iv14_5 hW0 ta1 c87
                      refine q_getI dX12_size_147 fl12_349 (kR14 hS35.1 ta1) ((hS35.cell ta1 (by decide +kernel)).trans c87) ?_
                      exact tr_iret hZ dX12_size_150 rfl (by decide) (by decide) ⟨v86, rfl, rfl, rfl, rfl, rfl, rfl, hS35, trivial⟩
                    · skip
                      by_cases h89 : x1.toInt = 7
                      · skip
                        refine tr_tabIn (off := 113) 151 dX12_size_38 (by omega) (by omega) (by rw [h89]; decide +kernel) (by decide) ?_
                        refine tr_aload_n dX12_size_151 rfl ?_
                        refine tr_getR dX12_size_152 fl12_385 (kR15 hS35.1 ta0) d2 ?_
                        obtain ⟨v90, c91⟩ : ∃ v, I0 a1 6 = v := ⟨_, rfl⟩
                        have b92 := iv14_6 hW0 ta1 c91
                        refine q_getI dX12_size_155 fl12_370 (kR14 hS35.1 ta1) ((hS35.cell ta1 (by decide +kernel)).trans c91) ?_
                        exact tr_iret hZ dX12_size_158 rfl (by decide) (by decide) ⟨v90, rfl, rfl, rfl, rfl, rfl, rfl, hS35, trivial⟩
                      · skip
                        by_cases h93 : x1.toInt = 8
                        · skip
                          refine tr_tabIn (off := 121) 159 dX12_size_38 (by omega) (by omega) (by rw [h93]; decide +kernel) (by decide) ?_
                          refine tr_aload_n dX12_size_159 rfl ?_
                          refine tr_getR dX12_size_160 fl12_385 (kR15 hS35.1 ta0) d2 ?_
                          obtain ⟨v94, c95⟩ : ∃ v, I0 a1 8 = v := ⟨_, rfl⟩
                          have b96 := iv14_8 hW0 ta1 c95
                          refine q_getI dX12_size_163 fl12_312 (kR14 hS35.1 ta1) ((hS35.cell ta1 (by decide +kernel)).trans c95) ?_
                          exact tr_iret hZ dX12_size_166 rfl (by decide) (by decide) ⟨v94, rfl, rfl, rfl, rfl, rfl, rfl, hS35, trivial⟩
                        · skip
                          by_cases h97 : x1.toInt = 9
                          · skip
                            refine tr_tabIn (off := 129) 167 dX12_size_38 (by omega) (by omega) (by rw [h97]; decide +kernel) (by decide) ?_
                            refine tr_aload_n dX12_size_167 rfl ?_
                            obtain ⟨a98, d99, ta98⟩ := rf15_16 hW0 ta0
                            refine tr_getR dX12_size_168 fl12_17 (kR15 hS35.1 ta0) d99 ?_
                            refine q_iconst dX12_size_171 (by decide) ?_
                            intro v100 h101
                            obtain ⟨v102, c103⟩ : ∃ v, I0 a98 2 = v := ⟨_, rfl⟩
                            have b104 := iv77_2 hW0 ta98 (by decide) c103
                            refine q_iald dX12_size_172 (kR77 hS35.1 ta98) (ti_in (nR77 hS35.1 ta98) (by omega) (by omega)) ?_
                            intro v105 c106
                            rw [show v100.toNatClampNeg = 2 from ti_cl (by omega)] at c106
                            obtain rfl : v102 = v105 := (((hS35.cell ta98 (by decide +kernel)).trans c103)).symm.trans c106
                            exact tr_iret hZ dX12_size_173 rfl (by decide) (by decide) ⟨v102, rfl, rfl, rfl, rfl, rfl, rfl, hS35, trivial⟩
                          · skip
                            by_cases h107 : x1.toInt = 10
                            · skip
                              refine tr_tabIn (off := 136) 174 dX12_size_38 (by omega) (by omega) (by rw [h107]; decide +kernel) (by decide) ?_
                              refine tr_aload_n dX12_size_174 rfl ?_
                              obtain ⟨v108, c109⟩ : ∃ v, I0 a0 19 = v := ⟨_, rfl⟩
                              have b110 := iv15_19 hW0 ta0 c109
                              refine q_getI dX12_size_175 fl12_387 (kR15 hS35.1 ta0) ((hS35.cell ta0 (by decide +kernel)).trans c109) ?_
                              exact tr_iret hZ dX12_size_178 rfl (by decide) (by decide) ⟨v108, rfl, rfl, rfl, rfl, rfl, rfl, hS35, trivial⟩
                            · skip
                              refine tr_tabOut 179 dX12_size_38 (by omega) (by decide) ?_
                              refine tr_aload_n dX12_size_179 rfl ?_
                              obtain ⟨v111, c112⟩ : ∃ v, I0 a0 20 = v := ⟨_, rfl⟩
                              have b113 := iv15_20 hW0 ta0 c112
                              refine q_getI dX12_size_180 fl12_390 (kR15 hS35.1 ta0) ((hS35.cell ta0 (by decide +kernel)).trans c112) ?_
                              exact tr_iret hZ dX12_size_183 rfl (by decide) (by decide) ⟨v111, rfl, rfl, rfl, rfl, rfl, rfl, hS35, trivial⟩
      · skip
        refine q_iconst dX12_size_26 (by decide) ?_
        intro v114 h115
        exact tr_iret hZ dX12_size_27 rfl (by decide) (by decide) ⟨v114, rfl, rfl, rfl, rfl, rfl, rfl, hS35, trivial⟩
    · skip
      refine tr_aload_n dX12_size_11 rfl ?_
      obtain ⟨v116, c117⟩ : ∃ v, I0 a0 6 = v := ⟨_, rfl⟩
      have b118 := iv15_6 hW0 ta0 c117
      refine q_getI dX12_size_12 fl12_378 (kR15 hS35.1 ta0) ((hS35.cell ta0 (by decide +kernel)).trans c117) ?_
      exact tr_iret hZ dX12_size_15 rfl (by decide) (by decide) ⟨v116, rfl, rfl, rfl, rfl, rfl, rfl, hS35, trivial⟩
def wi_X12_trouble : List Nat := [960]
def wr_X12_trouble : List Nat := []
set_option maxHeartbeats 4000000 in
theorem k_X12_trouble {l : Launch} {T : Nat → Nat} {cn : Nat} {K N : Nat → Nat} {I0 : cz_I} {R0 : cz_R} {L0 : cz_L} {d : Int} (hW0 : Wf T cn K N I0 R0 d) {a0 : Nat} (ta0 : T a0 = 15) : ConE l mX12_trouble [.ref a0] cn K N I0 R0 L0 (ca_i (fun v cn' K' N' I' R' L' => cn = cn' ∧ K = K' ∧ N = N' ∧ R0 = R' ∧ L0 = L' ∧ St T cn K N d wi_X12_trouble wr_X12_trouble I0 R0 I' R0 ∧ True)) := by
  refine ConE.of (by decide +kernel) rfl (Nat.le_of_ble_eq_true rfl) rfl (fun X hX hZ hE => ?_)
  subst hX
  have hS0 : St T cn K N d wi_X12_trouble wr_X12_trouble I0 R0 I0 R0 := St.rf0 hW0
  refine tr_aload_n dX12_trouble_0 rfl ?_
  refine q_iconst dX12_trouble_1 (by decide) ?_
  intro v1 h2
  refine q_putI dX12_trouble_2 fl12_70 (kR15 hS0.1 ta0) (Or.inl rfl) hS0 ta0 (iokF rfl) rfl (by decide +kernel) ?_
  intro I3 hS4 e5 f6
  refine tr_aload_n dX12_trouble_5 rfl ?_
  obtain ⟨v7, c8⟩ : ∃ v, I0 a0 1 = v := ⟨_, rfl⟩
  refine q_getI dX12_trouble_6 fl12_73 (kR15 hS4.1 ta0) ((hS4.cell ta0 (by decide +kernel)).trans c8) ?_
  exact tr_iret hZ dX12_trouble_9 rfl (by decide) (by decide) ⟨v7, rfl, rfl, rfl, rfl, rfl, rfl, hS4, trivial⟩
def wi_X12_led : List Nat := [960, 5247, 5311, 5375, 5439, 5503, 5567, 5631, 5695, 5759, 5823, 5887, 5951, 6015]
def wr_X12_led : List Nat := []
set_option maxHeartbeats 4000000 in
theorem k_X12_led {l : Launch} {T : Nat → Nat} {cn : Nat} {K N : Nat → Nat} {I0 : cz_I} {R0 : cz_R} {L0 : cz_L} {d : Int} (hW0 : Wf T cn K N I0 R0 d) {a0 : Nat} (ta0 : T a0 = 15) {x1 : Int32} : ConE l mX12_led [.ref a0, .int x1] cn K N I0 R0 L0 (ca_i (fun v cn' K' N' I' R' L' => cn = cn' ∧ K = K' ∧ N = N' ∧ R0 = R' ∧ L0 = L' ∧ St T cn K N d wi_X12_led wr_X12_led I0 R0 I' R0 ∧ True)) := by
  refine ConE.of (by decide +kernel) rfl (Nat.le_of_ble_eq_true rfl) rfl (fun X hX hZ hE => ?_)
  subst hX
  have hS0 : St T cn K N d wi_X12_led wr_X12_led I0 R0 I0 R0 := St.rf0 hW0
  rcases rf15_3 hW0 ta0 with d2 | ⟨a1, d2, ta1⟩
  · skip
    refine tr_aload_n dX12_led_0 rfl ?_
    refine q_iconst dX12_led_1 (by decide) ?_
    intro v3 h4
    refine q_putI dX12_led_2 fl12_70 (kR15 hS0.1 ta0) (Or.inl rfl) hS0 ta0 (iokF rfl) rfl (by decide +kernel) ?_
    intro I5 hS6 e7 f8
    refine q_iconst dX12_led_5 (by decide) ?_
    intro v9 h10
    refine tr_istore_n dX12_led_6 (by decide) (by decide) ?_
    refine tr_aload_n dX12_led_7 rfl ?_
    refine tr_getN dX12_led_8 fl12_385 (kR15 hS6.1 ta0) d2 ?_
    refine tr_ifnullN 19 dX12_led_11 (by decide) ?_
    refine q_iconst dX12_led_19 (by decide) ?_
    intro v11 h12
    refine tr_istore_n dX12_led_20 (by decide) (by decide) ?_
    have lp22 : ∀ (fu : Nat) (ls : Nat → Option Value) (v13 : Int32) (v14 : Int32) (I19 : cz_I), ls 0 = some (.ref a0) → ls 1 = some (.int x1) → ls 2 = some (.int v13) → ls 3 = some (.int v14) → St T cn K N d wi_X12_led wr_X12_led I0 R0 I19 R0 → 0 ≤ v14.toInt → (-v14.toInt + 2147483647).toNat < fu → Tr X mX12_led 21 ls [] cn K N I19 R0 L0 0 0 := by
      intro fu
      induction fu with
      | zero => intros; rename_i hz; exact absurd hz (Nat.not_lt_zero _)
      | succ fu ih22 =>
        intro ls v13 v14 I19 hl15 hl16 hl17 hl18 hS20 g21 hm22
        refine tr_aload_n dX12_led_21 hl15 ?_
        refine tr_getN dX12_led_22 fl12_385 (kR15 hS20.1 ta0) d2 ?_
        refine tr_ifnullN 67 dX12_led_25 (by decide) ?_
        refine tr_aload_n dX12_led_67 hl15 ?_
        refine q_iconst dX12_led_68 (by decide) ?_
        intro v24 h25
        refine q_putI dX12_led_69 fl12_70 (kR15 hS20.1 ta0) (Or.inl rfl) hS20 ta0 (iokF rfl) rfl (by decide +kernel) ?_
        intro I26 hS27 e28 f29
        refine q_iconst dX12_led_72 (by decide) ?_
        intro v30 h31
        exact tr_iret hZ dX12_led_73 rfl (by decide) (by decide) ⟨v30, rfl, rfl, rfl, rfl, rfl, rfl, hS27, trivial⟩
    exact lp22 _ _ v9 v11 I5 rfl rfl rfl rfl hS6 (by omega) (Nat.lt_succ_self _)
  · skip
    refine tr_aload_n dX12_led_0 rfl ?_
    refine q_iconst dX12_led_1 (by decide) ?_
    intro v32 h33
    refine q_putI dX12_led_2 fl12_70 (kR15 hS0.1 ta0) (Or.inl rfl) hS0 ta0 (iokF rfl) rfl (by decide +kernel) ?_
    intro I34 hS35 e36 f37
    refine q_iconst dX12_led_5 (by decide) ?_
    intro v38 h39
    refine tr_istore_n dX12_led_6 (by decide) (by decide) ?_
    refine tr_aload_n dX12_led_7 rfl ?_
    refine tr_getR dX12_led_8 fl12_385 (kR15 hS35.1 ta0) d2 ?_
    refine tr_ifnull dX12_led_11 ?_
    refine tr_aload_n dX12_led_14 rfl ?_
    refine q_callVi hE (M' := mX12_tonight) (as := []) dX12_led_15 lk12_455 inX12_tonight seX12_tonight myX12_tonight (by decide) ⟨by decide, by decide⟩ rfl (kR15 hS35.1 ta0) (Nat.le_of_ble_eq_true rfl) rfl rfl (by decide) (by decide) (k_X12_tonight hS35.1 ta0 ⟨_, d2⟩) ?_
    rintro v44 cn' K' N' I40 R41 L42 ⟨rfl, rfl, rfl, rfl, rfl, g43, -⟩
    have hS45 := hS35.tr g43 (by decide +kernel) (by decide +kernel)
    have c46 : I40 a0 0 = v32 := (g43.cell ta0 (by decide +kernel)).trans e36
    refine tr_pop dX12_led_18 rfl ?_
    refine q_iconst dX12_led_19 (by decide) ?_
    intro v47 h48
    refine tr_istore_n dX12_led_20 (by decide) (by decide) ?_
    have lp58 : ∀ (fu : Nat) (ls : Nat → Option Value) (v49 : Int32) (v50 : Int32) (I55 : cz_I), ls 0 = some (.ref a0) → ls 1 = some (.int x1) → ls 2 = some (.int v49) → ls 3 = some (.int v50) → St T cn K N d wi_X12_led wr_X12_led I0 R0 I55 R0 → 0 ≤ v50.toInt → (-v50.toInt + 2147483647).toNat < fu → Tr X mX12_led 21 ls [] cn K N I55 R0 L0 0 0 := by
      intro fu
      induction fu with
      | zero => intros; rename_i hz; exact absurd hz (Nat.not_lt_zero _)
      | succ fu ih58 =>
        intro ls v49 v50 I55 hl51 hl52 hl53 hl54 hS56 g57 hm58
        refine tr_aload_n dX12_led_21 hl51 ?_
        refine tr_getR dX12_led_22 fl12_385 (kR15 hS56.1 ta0) d2 ?_
        refine tr_ifnull dX12_led_25 ?_
        refine tr_iload_n dX12_led_28 hl54 ?_
        refine tr_aload_n dX12_led_29 hl51 ?_
        refine tr_getR dX12_led_30 fl12_385 (kR15 hS56.1 ta0) d2 ?_
        obtain ⟨v60, c61⟩ : ∃ v, I0 a1 3 = v := ⟨_, rfl⟩
        have b62 := iv14_3 hW0 ta1 c61
        refine q_getI dX12_led_33 fl12_224 (kR14 hS56.1 ta1) ((hS56.cell ta1 (by decide +kernel)).trans c61) ?_
        refine q_icmp_ge 67 dX12_led_36 (by decide) (fun h63 => ?_) (fun h63 => ?_)
        · skip
          refine tr_aload_n dX12_led_67 hl51 ?_
          refine q_iconst dX12_led_68 (by decide) ?_
          intro v64 h65
          refine q_putI dX12_led_69 fl12_70 (kR15 hS56.1 ta0) (Or.inl rfl) hS56 ta0 (iokF rfl) rfl (by decide +kernel) ?_
          intro I66 hS67 e68 f69
          refine q_iconst dX12_led_72 (by decide) ?_
          intro v70 h71
          exact tr_iret hZ dX12_led_73 rfl (by decide) (by decide) ⟨v70, rfl, rfl, rfl, rfl, rfl, rfl, hS67, trivial⟩
        · skip
          refine tr_aload_n dX12_led_39 hl51 ?_
          obtain ⟨a72, d73, ta72⟩ := rf15_30 hW0 ta0
          refine tr_getR dX12_led_40 fl12_55 (kR15 hS56.1 ta0) d73 ?_
          refine tr_iload_n dX12_led_43 hl54 ?_
          refine q_iald dX12_led_44 (kR90 hS56.1 ta72) (ti_in (nR90 hS56.1 ta72) (by omega) (by omega)) ?_
          intro v74 c75
          refine q_if_ne 51 dX12_led_45 (by decide) (fun h76 => ?_) (fun h76 => ?_)
          · skip
            refine tr_iload_n dX12_led_51 hl53 ?_
            refine tr_iload_n dX12_led_52 hl52 ?_
            refine q_icmp_ne 58 dX12_led_53 (by decide) (fun h77 => ?_) (fun h77 => ?_)
            · skip
              refine q_iinc dX12_led_58 hl53 (by decide) ?_
              intro v78
              refine q_iincE dX12_led_61 hl54 (by decide) (by decide) (by intros; omega) ?_
              intro v79 h80
              refine tr_goto 21 dX12_led_64 (by decide) ?_
              exact ih58 _ v78 v79 I55 hl51 hl52 rfl rfl hS56 (by omega) (by omega)
            · skip
              refine tr_iload_n dX12_led_56 hl54 ?_
              exact tr_iret hZ dX12_led_57 rfl (by decide) (by decide) ⟨v50, rfl, rfl, rfl, rfl, rfl, rfl, hS56, trivial⟩
          · skip
            refine tr_goto 61 dX12_led_48 (by decide) ?_
            refine q_iincE dX12_led_61 hl54 (by decide) (by decide) (by intros; omega) ?_
            intro v81 h82
            refine tr_goto 21 dX12_led_64 (by decide) ?_
            exact ih58 _ v49 v81 I55 hl51 hl52 hl53 rfl hS56 (by omega) (by omega)
    exact lp58 _ _ v38 v47 I40 rfl rfl rfl rfl hS45 (by omega) (Nat.lt_succ_self _)
/-! ===== how far the reference has read ===== -/
def RdI (a : Nat) (I I' : cz_I) : Prop := ((I a 9).toInt = 5 → (I' a 9).toInt = 5) ∧ (I a 8).toInt ≤ (I' a 8).toInt ∧ (2 ≤ (I' a 9).toInt ∧ (I' a 9).toInt ≤ 4 → (I a 8).toInt + 1 ≤ (I' a 8).toInt) ∧ (((I a 9).toInt = 5 → 1 ≤ (I a 13).toInt) → ((I' a 9).toInt = 5 → 1 ≤ (I' a 13).toInt)) ∧ ((I a 9).toInt = 5 → (I' a 13).toInt = (I a 13).toInt ∧ (I' a 14).toInt = (I a 14).toInt)
def EwI (a : Nat) (I I' : cz_I) : Prop := (I' a 9 = I a 9 ∧ I' a 8 = I a 8 ∧ I' a 13 = I a 13 ∧ I' a 14 = I a 14) ∨ RdI a I I'
def Gd (s : Int32) (p : Prop) : Prop := s.toInt ≠ 5 → p
section CzRd
variable {a : Nat} {I J K : cz_I}
theorem EwI.rf (a : Nat) (I : cz_I) : EwI a I I := Or.inl ⟨rfl, rfl, rfl, rfl⟩
theorem RdI.rd (h : RdI a I J) (h2 : RdI a J K) : RdI a I K := by
  obtain ⟨a1, a2, a3, a4, a5⟩ := h
  obtain ⟨b1, b2, b3, b4, b5⟩ := h2
  exact ⟨fun z => b1 (a1 z), by omega, fun z => by have := b3 z; omega, fun z y => b4 (a4 z) y, fun z => ⟨(b5 (a1 z)).1.trans (a5 z).1, (b5 (a1 z)).2.trans (a5 z).2⟩⟩
theorem EwI.rd (h : EwI a I J) (h2 : RdI a J K) : RdI a I K := by
  rcases h with ⟨e1, e2, e3, e4⟩ | h
  · unfold RdI at h2 ⊢; rw [e1, e2, e3, e4] at h2; exact h2
  · exact h.rd h2
theorem RdI.ew (h : RdI a I J) (h2 : EwI a J K) : RdI a I K := by
  rcases h2 with ⟨e1, e2, e3, e4⟩ | h2
  · unfold RdI at h ⊢; rw [e1, e2, e3, e4]; exact h
  · exact h.rd h2
theorem EwI.ew (h : EwI a I J) (h2 : EwI a J K) : EwI a I K := by
  rcases h with ⟨e1, e2, e3, e4⟩ | h
  · rcases h2 with ⟨f1, f2, f3, f4⟩ | h2
    · exact Or.inl ⟨f1.trans e1, f2.trans e2, f3.trans e3, f4.trans e4⟩
    · exact Or.inr (EwI.rd (Or.inl ⟨e1, e2, e3, e4⟩) h2)
  · exact Or.inr (h.ew h2)
theorem RdI.keep (h : RdI a I J) (e9 : K a 9 = J a 9) (e8 : K a 8 = J a 8) (e13 : K a 13 = J a 13) (e14 : K a 14 = J a 14) : RdI a I K := by
  unfold RdI at h ⊢; rw [e9, e8, e13, e14]; exact h
theorem EwI.keep (h : EwI a I J) (e9 : K a 9 = J a 9) (e8 : K a 8 = J a 8) (e13 : K a 13 = J a 13) (e14 : K a 14 = J a 14) : EwI a I K := by
  rcases h with ⟨x, y, z, w⟩ | h
  · exact Or.inl ⟨e9.trans x, e8.trans y, e13.trans z, e14.trans w⟩
  · exact Or.inr (h.keep e9 e8 e13 e14)
theorem RdI.stick (h : RdI a I J) : (I a 9).toInt = 5 → (J a 9).toInt = 5 := h.1
theorem EwI.stick (h : EwI a I J) : (I a 9).toInt = 5 → (J a 9).toInt = 5 := by
  rcases h with ⟨x, -, -, -⟩ | h
  · rw [x]; exact id
  · exact h.1
theorem RdI.over (h : RdI a I J) (h5 : (I a 9).toInt = 5) : (J a 9).toInt = 5 ∧ (J a 13).toInt = (I a 13).toInt ∧ (J a 14).toInt = (I a 14).toInt := ⟨h.1 h5, h.2.2.2.2 h5⟩
theorem EwI.over (h : EwI a I J) (h5 : (I a 9).toInt = 5) : (J a 9).toInt = 5 ∧ (J a 13).toInt = (I a 13).toInt ∧ (J a 14).toInt = (I a 14).toInt := by
  rcases h with ⟨x, -, y, z⟩ | h
  · rw [x, y, z]; exact ⟨h5, rfl, rfl⟩
  · exact h.over h5
theorem EwI.mono (h : EwI a I J) : (I a 8).toInt ≤ (J a 8).toInt := by
  rcases h with ⟨-, x, -⟩ | h
  · rw [x]; exact Int.le_refl _
  · exact h.2.1
theorem RdI.f4 (h : RdI a I J) : ((I a 9).toInt = 5 → 1 ≤ (I a 13).toInt) → ((J a 9).toInt = 5 → 1 ≤ (J a 13).toInt) := h.2.2.2.1
theorem EwI.f4 (h : EwI a I J) : ((I a 9).toInt = 5 → 1 ≤ (I a 13).toInt) → ((J a 9).toInt = 5 → 1 ≤ (J a 13).toInt) := by
  rcases h with ⟨x, -, z, -⟩ | h
  · rw [x, z]; exact id
  · exact h.2.2.2.1
theorem Gd.keep {s t : Int32} {p : Prop} (h : Gd s p) (e : t = s) : Gd t p := e ▸ h
theorem Gd.go {s t : Int32} {p : Prop} (h : Gd s p) (f : s.toInt = 5 → t.toInt = 5) : Gd t p := fun z => h (fun e => z (f e))
end CzRd
def wi_X12_flaw : List Nat := [969, 973, 974]
def wr_X12_flaw : List Nat := []
set_option maxHeartbeats 4000000 in
theorem k_X12_flaw {l : Launch} {T : Nat → Nat} {cn : Nat} {K N : Nat → Nat} {I0 : cz_I} {R0 : cz_R} {L0 : cz_L} {d : Int} (hW0 : Wf T cn K N I0 R0 d) {a0 : Nat} (ta0 : T a0 = 15) {x1 : Int32} (hx1 : 1 ≤ x1.toInt ∧ x1.toInt ≤ 6) : ConE l mX12_flaw [.ref a0, .int x1] cn K N I0 R0 L0 (ca_v (fun cn' K' N' I' R' L' => cn = cn' ∧ K = K' ∧ N = N' ∧ R0 = R' ∧ L0 = L' ∧ St T cn K N d wi_X12_flaw wr_X12_flaw I0 R0 I' R0 ∧ ((I' a0 9).toInt = 5) ∧ ((I' a0 8).toInt = (I0 a0 8).toInt) ∧ RdI a0 I0 I' ∧ True)) := by
  refine ConE.of (by decide +kernel) rfl (Nat.le_of_ble_eq_true rfl) rfl (fun X hX hZ hE => ?_)
  subst hX
  have hS0 : St T cn K N d wi_X12_flaw wr_X12_flaw I0 R0 I0 R0 := St.rf0 hW0
  obtain ⟨v1, c2⟩ : ∃ v, I0 a0 8 = v := ⟨_, rfl⟩
  have b3 := iv15_8 hW0 ta0 c2
  obtain ⟨v4, c5⟩ : ∃ v, I0 a0 9 = v := ⟨_, rfl⟩
  have b6 := iv15_9 hS0.1 ta0 c5
  obtain ⟨v7, c8⟩ : ∃ v, I0 a0 13 = v := ⟨_, rfl⟩
  obtain ⟨v9, c10⟩ : ∃ v, I0 a0 14 = v := ⟨_, rfl⟩
  refine tr_aload_n dX12_flaw_0 rfl ?_
  refine q_getI dX12_flaw_1 fl12_99 (kR15 hS0.1 ta0) c5 ?_
  refine q_iconst dX12_flaw_4 (by decide) ?_
  intro v11 h12
  refine q_icmp_ne 9 dX12_flaw_5 (by decide) (fun h13 => ?_) (fun h13 => ?_)
  · skip
    refine tr_aload_n dX12_flaw_9 rfl ?_
    refine tr_iload_n dX12_flaw_10 rfl ?_
    refine q_putI dX12_flaw_11 fl12_128 (kR15 hS0.1 ta0) (Or.inl rfl) hS0 ta0 (iokF rfl) rfl (by decide +kernel) ?_
    intro I14 hS15 e16 f17
    have c18 : I14 a0 9 = v4 := (f17 _ _ (fun q => absurd q.2 (by decide))).trans c5
    have c19 : I14 a0 14 = v9 := (f17 _ _ (fun q => absurd q.2 (by decide))).trans c10
    refine tr_aload_n dX12_flaw_14 rfl ?_
    refine tr_aload_n dX12_flaw_15 rfl ?_
    obtain ⟨v20, c21⟩ : ∃ v, I0 a0 10 = v := ⟨_, rfl⟩
    have b22 := iv15_10 hW0 ta0 c21
    refine q_getI dX12_flaw_16 fl12_108 (kR15 hS15.1 ta0) ((hS15.cell ta0 (by decide +kernel)).trans c21) ?_
    refine q_putI dX12_flaw_19 fl12_131 (kR15 hS15.1 ta0) (Or.inl rfl) hS15 ta0 (iokF rfl) rfl (by decide +kernel) ?_
    intro I23 hS24 e25 f26
    have c27 : I23 a0 9 = v4 := (f26 _ _ (fun q => absurd q.2 (by decide))).trans c18
    have c28 : I23 a0 13 = x1 := (f26 _ _ (fun q => absurd q.2 (by decide))).trans e16
    refine tr_aload_n dX12_flaw_22 rfl ?_
    refine q_iconst dX12_flaw_23 (by decide) ?_
    intro v29 h30
    refine q_putI dX12_flaw_24 fl12_99 (kR15 hS24.1 ta0) (Or.inl rfl) hS24 ta0 (by show (0 : Int) ≤ v29.toInt ∧ v29.toInt ≤ (5 : Int); omega) rfl (by decide +kernel) ?_
    intro I31 hS32 e33 f34
    have c35 : I31 a0 13 = x1 := (f34 _ _ (fun q => absurd q.2 (by decide))).trans c28
    have c36 : I31 a0 14 = v20 := (f34 _ _ (fun q => absurd q.2 (by decide))).trans e25
    exact tr_vret hZ dX12_flaw_27 rfl (by decide) (by decide) ⟨rfl, rfl, rfl, rfl, rfl, rfl, hS32, (by (try rw [e33]); (try omega)), (by (try rw [((hS32.cell ta0 (by decide +kernel)).trans c2)]); (try rw [c2]); (try omega)), (by unfold RdI; (try rw [c5]); (try rw [e33]); (try rw [c2]); (try rw [((hS32.cell ta0 (by decide +kernel)).trans c2)]); (try rw [c8]); (try rw [c35]); (try rw [c10]); (try rw [c36]); omega), trivial⟩
  · skip
    exact tr_vret hZ dX12_flaw_8 rfl (by decide) (by decide) ⟨rfl, rfl, rfl, rfl, rfl, rfl, hS0, (by (try rw [c5]); (try omega)), (by (try rw [c2]); (try omega)), (by unfold RdI; (try rw [c5]); (try rw [c2]); (try rw [c8]); (try rw [c10]); omega), trivial⟩
set_option maxHeartbeats 4000000 in
theorem k_X12_isWord {l : Launch} {T : Nat → Nat} {cn : Nat} {K N : Nat → Nat} {I0 : cz_I} {R0 : cz_R} {L0 : cz_L} {d : Int} (hW0 : Wf T cn K N I0 R0 d) {a0 : Nat} (ta0 : T a0 = 15) {u1 : UInt32} (hu1 : u1.toNat < cz_NS) : ConE l mX12_isWord [.ref a0, .float u1] cn K N I0 R0 L0 (ca_i (fun v cn' K' N' I' R' L' => cn = cn' ∧ K = K' ∧ N = N' ∧ I0 = I' ∧ R0 = R' ∧ L0 = L' ∧ (0 ≤ v.toInt ∧ v.toInt ≤ 1) ∧ ((v.toInt = 1 → (I0 a0 9).toInt = 2)) ∧ True)) := by
  refine ConE.of (by decide +kernel) rfl (Nat.le_of_ble_eq_true rfl) rfl (fun X hX hZ hE => ?_)
  subst hX
  obtain ⟨v1, c2⟩ : ∃ v, I0 a0 9 = v := ⟨_, rfl⟩
  have b3 := iv15_9 hW0 ta0 c2
  refine tr_aload_n dX12_isWord_0 rfl ?_
  refine q_getI dX12_isWord_1 fl12_99 (kR15 hW0 ta0) c2 ?_
  refine q_iconst dX12_isWord_4 (by decide) ?_
  intro v4 h5
  refine q_icmp_ne 24 dX12_isWord_5 (by decide) (fun h6 => ?_) (fun h6 => ?_)
  · skip
    refine q_iconst dX12_isWord_24 (by decide) ?_
    intro v7 h8
    exact tr_zret hZ dX12_isWord_25 rfl (ti_b01 (by omega) (by omega)) (by decide) (by decide) ⟨v7, rfl, rfl, rfl, rfl, rfl, rfl, rfl, (by omega), (by (try rw [c2]); (try omega)), trivial⟩
  · skip
    refine tr_aload_n dX12_isWord_8 rfl ?_
    refine q_getL dX12_isWord_9 fl12_118 (kR15 hW0 ta0) ?_
    intro y9
    refine tr_aload_nS dX12_isWord_12 rfl ?_
    refine q_callSl hE (M' := mX12_wordOf) (as := [_]) dX12_isWord_13 lk12_134 inX12_wordOf myX12_wordOf ⟨by decide, by decide⟩ rfl (Nat.le_of_ble_eq_true rfl) rfl rfl (by decide) (by decide) (k_X12_wordOf hW0 hu1) ?_
    rintro y14 cn' K' N' I10 R11 L12 ⟨rfl, rfl, rfl, rfl, rfl, rfl, -⟩
    refine q_lcmp dX12_isWord_16 ?_
    intro v15
    refine q_if_ne 24 dX12_isWord_17 (by decide) (fun h16 => ?_) (fun h16 => ?_)
    · skip
      refine q_iconst dX12_isWord_24 (by decide) ?_
      intro v17 h18
      exact tr_zret hZ dX12_isWord_25 rfl (ti_b01 (by omega) (by omega)) (by decide) (by decide) ⟨v17, rfl, rfl, rfl, rfl, rfl, rfl, rfl, (by omega), (by (try rw [c2]); (try omega)), trivial⟩
    · skip
      refine q_iconst dX12_isWord_20 (by decide) ?_
      intro v19 h20
      refine tr_goto 25 dX12_isWord_21 (by decide) ?_
      exact tr_zret hZ dX12_isWord_25 rfl (ti_b01 (by omega) (by omega)) (by decide) (by decide) ⟨v19, rfl, rfl, rfl, rfl, rfl, rfl, rfl, (by omega), (by (try rw [c2]); (try omega)), trivial⟩
set_option maxHeartbeats 4000000 in
theorem k_X12_byteAt {l : Launch} {T : Nat → Nat} {cn : Nat} {K N : Nat → Nat} {I0 : cz_I} {R0 : cz_R} {L0 : cz_L} {d : Int} (hW0 : Wf T cn K N I0 R0 d) {a0 : Nat} (ta0 : T a0 = 15) {x1 : Int32} (hx1 : 0 ≤ x1.toInt ∧ x1.toInt ≤ 900) : ConE l mX12_byteAt [.ref a0, .int x1] cn K N I0 R0 L0 (ca_i (fun v cn' K' N' I' R' L' => cn = cn' ∧ K = K' ∧ N = N' ∧ I0 = I' ∧ R0 = R' ∧ L0 = L' ∧ (((I0 a0 7).toInt ≤ x1.toInt → v.toInt = -1)) ∧ v = m_by I0 R0 a0 x1 ∧ True)) := by
  refine ConE.of (by decide +kernel) rfl (Nat.le_of_ble_eq_true rfl) rfl (fun X hX hZ hE => ?_)
  subst hX
  obtain ⟨v1, c2⟩ : ∃ v, I0 a0 7 = v := ⟨_, rfl⟩
  have b3 := iv15_7 hW0 ta0 c2
  refine tr_iload_n dX12_byteAt_0 rfl ?_
  refine tr_aload_n dX12_byteAt_1 rfl ?_
  refine q_getI dX12_byteAt_2 fl12_84 (kR15 hW0 ta0) c2 ?_
  refine q_icmp_ge 21 dX12_byteAt_5 (by decide) (fun h4 => ?_) (fun h4 => ?_)
  · skip
    refine q_iconst dX12_byteAt_21 (by decide) ?_
    intro v5 h6
    exact tr_iret hZ dX12_byteAt_22 rfl (by decide) (by decide) ⟨v5, rfl, rfl, rfl, rfl, rfl, rfl, rfl, (by (try rw [c2]); (try omega)), (by rw [m_by, c2, if_neg (by omega)]; exact Int32.toInt_inj.mp (show v5.toInt = (-1 : Int32).toInt from h6.trans rfl)), trivial⟩
  · skip
    refine tr_aload_n dX12_byteAt_8 rfl ?_
    obtain ⟨a7, d8, ta7⟩ := rf15_5 hW0 ta0
    refine tr_getR dX12_byteAt_9 fl12_13 (kR15 hW0 ta0) d8 ?_
    refine tr_iload_n dX12_byteAt_12 rfl ?_
    refine q_bald dX12_byteAt_13 (kR76 hW0 ta7) (ti_in (nR76 hW0 ta7) (by omega) (by omega)) ?_
    intro v9 c10
    have b11 := iv76 hW0 ta7 c10
    refine q_sipush dX12_byteAt_14 (by decide +kernel) ?_
    intro v12 h13
    refine q_iandE dX12_byteAt_17 ?_
    intro v14 h15
    refine tr_goto 22 dX12_byteAt_18 (by decide) ?_
    exact tr_iret hZ dX12_byteAt_22 rfl (by decide) (by decide) ⟨v14, rfl, rfl, rfl, rfl, rfl, rfl, rfl, (by (try rw [c2]); (try omega)), (by rw [m_by, c2, if_pos (by omega), rg_s d8, c10, h15, Int32.toInt_inj.mp (show v12.toInt = (255 : Int32).toInt from h13.trans rfl)]), trivial⟩
set_option maxHeartbeats 4000000 in
theorem k_X12_isLetter {l : Launch} {T : Nat → Nat} {cn : Nat} {K N : Nat → Nat} {I0 : cz_I} {R0 : cz_R} {L0 : cz_L} {d : Int} (hW0 : Wf T cn K N I0 R0 d) {x0 : Int32} : ConE l mX12_isLetter [.int x0] cn K N I0 R0 L0 (ca_i (fun v cn' K' N' I' R' L' => cn = cn' ∧ K = K' ∧ N = N' ∧ I0 = I' ∧ R0 = R' ∧ L0 = L' ∧ (0 ≤ v.toInt ∧ v.toInt ≤ 1) ∧ ((v.toInt = 1 → (97 ≤ x0.toInt ∧ x0.toInt ≤ 122))) ∧ ((v.toInt = 0 → (x0.toInt < 97 ∨ x0.toInt > 122))) ∧ True)) := by
  refine ConE.of (by decide +kernel) rfl (Nat.le_of_ble_eq_true rfl) rfl (fun X hX hZ hE => ?_)
  subst hX
  refine tr_iload_n dX12_isLetter_0 rfl ?_
  refine q_bipush dX12_isLetter_1 (by decide +kernel) ?_
  intro v1 h2
  refine q_icmp_lt 16 dX12_isLetter_3 (by decide) (fun h3 => ?_) (fun h3 => ?_)
  · skip
    refine q_iconst dX12_isLetter_16 (by decide) ?_
    intro v4 h5
    exact tr_zret hZ dX12_isLetter_17 rfl (ti_b01 (by omega) (by omega)) (by decide) (by decide) ⟨v4, rfl, rfl, rfl, rfl, rfl, rfl, rfl, (by omega), (by omega), (by omega), trivial⟩
  · skip
    refine tr_iload_n dX12_isLetter_6 rfl ?_
    refine q_bipush dX12_isLetter_7 (by decide +kernel) ?_
    intro v6 h7
    refine q_icmp_gt 16 dX12_isLetter_9 (by decide) (fun h8 => ?_) (fun h8 => ?_)
    · skip
      refine q_iconst dX12_isLetter_16 (by decide) ?_
      intro v9 h10
      exact tr_zret hZ dX12_isLetter_17 rfl (ti_b01 (by omega) (by omega)) (by decide) (by decide) ⟨v9, rfl, rfl, rfl, rfl, rfl, rfl, rfl, (by omega), (by omega), (by omega), trivial⟩
    · skip
      refine q_iconst dX12_isLetter_12 (by decide) ?_
      intro v11 h12
      refine tr_goto 17 dX12_isLetter_13 (by decide) ?_
      exact tr_zret hZ dX12_isLetter_17 rfl (ti_b01 (by omega) (by omega)) (by decide) (by decide) ⟨v11, rfl, rfl, rfl, rfl, rfl, rfl, rfl, (by omega), (by omega), (by omega), trivial⟩
set_option maxHeartbeats 4000000 in
theorem k_X12_isDigit {l : Launch} {T : Nat → Nat} {cn : Nat} {K N : Nat → Nat} {I0 : cz_I} {R0 : cz_R} {L0 : cz_L} {d : Int} (hW0 : Wf T cn K N I0 R0 d) {x0 : Int32} : ConE l mX12_isDigit [.int x0] cn K N I0 R0 L0 (ca_i (fun v cn' K' N' I' R' L' => cn = cn' ∧ K = K' ∧ N = N' ∧ I0 = I' ∧ R0 = R' ∧ L0 = L' ∧ (0 ≤ v.toInt ∧ v.toInt ≤ 1) ∧ ((v.toInt = 1 → (48 ≤ x0.toInt ∧ x0.toInt ≤ 57))) ∧ ((v.toInt = 0 → (x0.toInt < 48 ∨ x0.toInt > 57))) ∧ True)) := by
  refine ConE.of (by decide +kernel) rfl (Nat.le_of_ble_eq_true rfl) rfl (fun X hX hZ hE => ?_)
  subst hX
  refine tr_iload_n dX12_isDigit_0 rfl ?_
  refine q_bipush dX12_isDigit_1 (by decide +kernel) ?_
  intro v1 h2
  refine q_icmp_lt 16 dX12_isDigit_3 (by decide) (fun h3 => ?_) (fun h3 => ?_)
  · skip
    refine q_iconst dX12_isDigit_16 (by decide) ?_
    intro v4 h5
    exact tr_zret hZ dX12_isDigit_17 rfl (ti_b01 (by omega) (by omega)) (by decide) (by decide) ⟨v4, rfl, rfl, rfl, rfl, rfl, rfl, rfl, (by omega), (by omega), (by omega), trivial⟩
  · skip
    refine tr_iload_n dX12_isDigit_6 rfl ?_
    refine q_bipush dX12_isDigit_7 (by decide +kernel) ?_
    intro v6 h7
    refine q_icmp_gt 16 dX12_isDigit_9 (by decide) (fun h8 => ?_) (fun h8 => ?_)
    · skip
      refine q_iconst dX12_isDigit_16 (by decide) ?_
      intro v9 h10
      exact tr_zret hZ dX12_isDigit_17 rfl (ti_b01 (by omega) (by omega)) (by decide) (by decide) ⟨v9, rfl, rfl, rfl, rfl, rfl, rfl, rfl, (by omega), (by omega), (by omega), trivial⟩
    · skip
      refine q_iconst dX12_isDigit_12 (by decide) ?_
      intro v11 h12
      refine tr_goto 17 dX12_isDigit_13 (by decide) ?_
      exact tr_zret hZ dX12_isDigit_17 rfl (ti_b01 (by omega) (by omega)) (by decide) (by decide) ⟨v11, rfl, rfl, rfl, rfl, rfl, rfl, rfl, (by omega), (by omega), (by omega), trivial⟩
def wi_X12_goesOn : List Nat := [968, 969, 970, 971, 972]
def wr_X12_goesOn : List Nat := []
set_option maxHeartbeats 4000000 in
theorem k_X12_goesOn {l : Launch} {T : Nat → Nat} {cn : Nat} {K N : Nat → Nat} {I0 : cz_I} {R0 : cz_R} {L0 : cz_L} {d : Int} (hW0 : Wf T cn K N I0 R0 d) {a0 : Nat} (ta0 : T a0 = 15) : ConE l mX12_goesOn [.ref a0] cn K N I0 R0 L0 (ca_v (fun cn' K' N' I' R' L' => cn = cn' ∧ K = K' ∧ N = N' ∧ R0 = R' ∧ St T cn K N d wi_X12_goesOn wr_X12_goesOn I0 R0 I' R0 ∧ (((I0 a0 9).toInt ≠ 5 → (I' a0 9).toInt ≠ 5)) ∧ (((I0 a0 9).toInt = 5 → (I' a0 9).toInt = 5)) ∧ (((I' a0 8).toInt ≥ (I0 a0 8).toInt ∧ (I' a0 13).toInt = (I0 a0 13).toInt)) ∧ RdI a0 I0 I' ∧ True)) := by
  refine ConE.of (by decide +kernel) rfl (Nat.le_of_ble_eq_true rfl) rfl (fun X hX hZ hE => ?_)
  subst hX
  have hS0 : St T cn K N d wi_X12_goesOn wr_X12_goesOn I0 R0 I0 R0 := St.rf0 hW0
  obtain ⟨v1, c2⟩ : ∃ v, I0 a0 9 = v := ⟨_, rfl⟩
  have b3 := iv15_9 hS0.1 ta0 c2
  obtain ⟨v4, c5⟩ : ∃ v, I0 a0 8 = v := ⟨_, rfl⟩
  have b6 := iv15_8 hS0.1 ta0 c5
  obtain ⟨v7, c8⟩ : ∃ v, I0 a0 13 = v := ⟨_, rfl⟩
  obtain ⟨v9, c10⟩ : ∃ v, I0 a0 14 = v := ⟨_, rfl⟩
  refine tr_aload_n dX12_goesOn_0 rfl ?_
  refine q_getI dX12_goesOn_1 fl12_99 (kR15 hS0.1 ta0) c2 ?_
  refine q_iconst dX12_goesOn_4 (by decide) ?_
  intro v11 h12
  refine q_icmp_ne 9 dX12_goesOn_5 (by decide) (fun h13 => ?_) (fun h13 => ?_)
  · skip
    have lp21 : ∀ (fu : Nat) (ls : Nat → Option Value) (I15 : cz_I) (L16 : cz_L) (v18 : Int32), ls 0 = some (.ref a0) → St T cn K N d wi_X12_goesOn wr_X12_goesOn I0 R0 I15 R0 → I15 a0 8 = v18 → v18.toInt ≥ v4.toInt → (-v18.toInt + 900).toNat < fu → Tr X mX12_goesOn 9 ls [] cn K N I15 R0 L16 0 0 := by
      intro fu
      induction fu with
      | zero => intros; rename_i hz; exact absurd hz (Nat.not_lt_zero _)
      | succ fu ih21 =>
        intro ls I15 L16 v18 hl14 hS17 c19 g20 hm21
        have b23 := iv15_8 hS17.1 ta0 c19
        refine tr_aload_n dX12_goesOn_9 hl14 ?_
        refine tr_aload_n dX12_goesOn_10 hl14 ?_
        refine q_getI dX12_goesOn_11 fl12_102 (kR15 hS17.1 ta0) c19 ?_
        obtain ⟨v24, c25⟩ : ∃ v, I0 a0 7 = v := ⟨_, rfl⟩
        have b26 := iv15_7 hW0 ta0 c25
        refine q_callVi hE (M' := mX12_byteAt) (as := [_]) dX12_goesOn_14 lk12_105 inX12_byteAt seX12_byteAt myX12_byteAt (by decide) ⟨by decide, by decide⟩ rfl (kR15 hS17.1 ta0) (Nat.le_of_ble_eq_true rfl) rfl rfl (by decide) (by decide) (k_X12_byteAt hS17.1 ta0 (by omega)) ?_
        rintro v31 cn' K' N' I27 R28 L29 ⟨rfl, rfl, rfl, rfl, rfl, rfl, p32, r33, -⟩
        rw [((hS17.cell ta0 (by decide +kernel)).trans c25)] at p32
        refine q_bipush dX12_goesOn_17 (by decide +kernel) ?_
        intro v34 h35
        refine q_icmp_ne 35 dX12_goesOn_19 (by decide) (fun h36 => ?_) (fun h36 => ?_)
        · skip
          refine tr_aload_n dX12_goesOn_35 hl14 ?_
          refine tr_aload_n dX12_goesOn_36 hl14 ?_
          refine q_getI dX12_goesOn_37 fl12_102 (kR15 hS17.1 ta0) c19 ?_
          refine q_putI dX12_goesOn_40 fl12_108 (kR15 hS17.1 ta0) (Or.inl rfl) hS17 ta0 (by show (0 : Int) ≤ v18.toInt ∧ v18.toInt ≤ (900 : Int); omega) rfl (by decide +kernel) ?_
          intro I37 hS38 e39 f40
          have c41 : I37 a0 8 = v18 := (f40 _ _ (fun q => absurd q.2 (by decide))).trans c19
          obtain ⟨a42, d43, ta42⟩ := rf15_5 hW0 ta0
          have r44 : v31 = m_by I37 R0 a0 v18 := r33.trans (m_by_kp d43 (f40 _ _ (fun q => absurd q.2 (by decide))) (fun i => f40 _ _ (fun q => by have z := ta42; rw [q.1, ta0] at z; exact absurd z (by decide))))
          refine tr_aload_n dX12_goesOn_43 hl14 ?_
          refine q_iconst dX12_goesOn_44 (by decide) ?_
          intro v45 h46
          refine q_putI dX12_goesOn_45 fl12_99 (kR15 hS38.1 ta0) (Or.inl rfl) hS38 ta0 (by show (0 : Int) ≤ v45.toInt ∧ v45.toInt ≤ (5 : Int); omega) rfl (by decide +kernel) ?_
          intro I47 hS48 e49 f50
          have c51 : I47 a0 8 = v18 := (f50 _ _ (fun q => absurd q.2 (by decide))).trans c41
          have c52 : I47 a0 10 = v18 := (f50 _ _ (fun q => absurd q.2 (by decide))).trans e39
          have r53 : v31 = m_by I47 R0 a0 v18 := r44.trans (m_by_kp d43 (f50 _ _ (fun q => absurd q.2 (by decide))) (fun i => f50 _ _ (fun q => by have z := ta42; rw [q.1, ta0] at z; exact absurd z (by decide))))
          refine tr_aload_n dX12_goesOn_48 hl14 ?_
          refine q_iconst dX12_goesOn_49 (by decide) ?_
          intro v54 h55
          refine q_putI dX12_goesOn_50 fl12_111 (kR15 hS48.1 ta0) (Or.inl rfl) hS48 ta0 (iokF rfl) rfl (by decide +kernel) ?_
          intro I56 hS57 e58 f59
          have c60 : I56 a0 8 = v18 := (f59 _ _ (fun q => absurd q.2 (by decide))).trans c51
          have c61 : I56 a0 10 = v18 := (f59 _ _ (fun q => absurd q.2 (by decide))).trans c52
          have c62 : I56 a0 9 = v45 := (f59 _ _ (fun q => absurd q.2 (by decide))).trans e49
          have r63 : v31 = m_by I56 R0 a0 v18 := r53.trans (m_by_kp d43 (f59 _ _ (fun q => absurd q.2 (by decide))) (fun i => f59 _ _ (fun q => by have z := ta42; rw [q.1, ta0] at z; exact absurd z (by decide))))
          refine tr_aload_n dX12_goesOn_53 hl14 ?_
          refine tr_aload_n dX12_goesOn_54 hl14 ?_
          refine q_getI dX12_goesOn_55 fl12_102 (kR15 hS57.1 ta0) c60 ?_
          refine q_callVi hE (M' := mX12_byteAt) (as := [_]) dX12_goesOn_58 lk12_105 inX12_byteAt seX12_byteAt myX12_byteAt (by decide) ⟨by decide, by decide⟩ rfl (kR15 hS57.1 ta0) (Nat.le_of_ble_eq_true rfl) rfl rfl (by decide) (by decide) (k_X12_byteAt hS57.1 ta0 (by omega)) ?_
          rintro v68 cn' K' N' I64 R65 L66 ⟨rfl, rfl, rfl, rfl, rfl, rfl, p69, r70, -⟩
          obtain rfl : v31 = v68 := r63.trans r70.symm
          rw [((hS57.cell ta0 (by decide +kernel)).trans c25)] at p69
          refine tr_istore_n dX12_goesOn_61 (by decide) (by decide) ?_
          refine q_iconst dX12_goesOn_62 (by decide) ?_
          intro v71 h72
          refine tr_istore_n dX12_goesOn_63 (by decide) (by decide) ?_
          refine tr_iload_n dX12_goesOn_64 rfl ?_
          refine q_iconst dX12_goesOn_65 (by decide) ?_
          intro v73 h74
          refine q_icmp_ne 77 dX12_goesOn_66 (by decide) (fun h75 => ?_) (fun h75 => ?_)
          · skip
            refine tr_iload_n dX12_goesOn_77 rfl ?_
            refine q_callSi hE (M' := mX12_isLetter) (as := [_]) dX12_goesOn_78 lk12_114 inX12_isLetter myX12_isLetter ⟨by decide, by decide⟩ rfl (Nat.le_of_ble_eq_true rfl) rfl rfl (by decide) (by decide) (k_X12_isLetter hS57.1 ) ?_
            rintro v80 cn' K' N' I76 R77 L78 ⟨rfl, rfl, rfl, rfl, rfl, rfl, h81, p82, p83, -⟩
            refine q_if_eq 166 dX12_goesOn_81 (by decide) (fun h84 => ?_) (fun h84 => ?_)
            · skip
              refine tr_iload_n dX12_goesOn_166 rfl ?_
              refine q_callSi hE (M' := mX12_isDigit) (as := [_]) dX12_goesOn_167 lk12_122 inX12_isDigit myX12_isDigit ⟨by decide, by decide⟩ rfl (Nat.le_of_ble_eq_true rfl) rfl rfl (by decide) (by decide) (k_X12_isDigit hS57.1 ) ?_
              rintro v89 cn' K' N' I85 R86 L87 ⟨rfl, rfl, rfl, rfl, rfl, rfl, h90, p91, p92, -⟩
              refine q_if_eq 249 dX12_goesOn_170 (by decide) (fun h93 => ?_) (fun h93 => ?_)
              · skip
                refine tr_iload_n dX12_goesOn_249 rfl ?_
                refine q_bipush dX12_goesOn_250 (by decide +kernel) ?_
                intro v94 h95
                refine q_icmp_eq 261 dX12_goesOn_252 (by decide) (fun h96 => ?_) (fun h96 => ?_)
                · skip
                  refine tr_aload_n dX12_goesOn_261 hl14 ?_
                  refine q_iconst dX12_goesOn_262 (by decide) ?_
                  intro v97 h98
                  refine q_putI dX12_goesOn_263 fl12_99 (kR15 hS57.1 ta0) (Or.inl rfl) hS57 ta0 (by show (0 : Int) ≤ v97.toInt ∧ v97.toInt ≤ (5 : Int); omega) rfl (by decide +kernel) ?_
                  intro I99 hS100 e101 f102
                  have c103 : I99 a0 8 = v18 := (f102 _ _ (fun q => absurd q.2 (by decide))).trans c60
                  have c104 : I99 a0 10 = v18 := (f102 _ _ (fun q => absurd q.2 (by decide))).trans c61
                  have c105 : I99 a0 11 = v54 := (f102 _ _ (fun q => absurd q.2 (by decide))).trans e58
                  have r106 : v31 = m_by I99 R0 a0 v18 := r63.trans (m_by_kp d43 (f102 _ _ (fun q => absurd q.2 (by decide))) (fun i => f102 _ _ (fun q => by have z := ta42; rw [q.1, ta0] at z; exact absurd z (by decide))))
                  refine tr_aload_n dX12_goesOn_266 hl14 ?_
                  refine tr_iload_n dX12_goesOn_267 rfl ?_
                  refine q_putI dX12_goesOn_268 fl12_111 (kR15 hS100.1 ta0) (Or.inl rfl) hS100 ta0 (iokF rfl) rfl (by decide +kernel) ?_
                  intro I107 hS108 e109 f110
                  have c111 : I107 a0 8 = v18 := (f110 _ _ (fun q => absurd q.2 (by decide))).trans c103
                  have c112 : I107 a0 10 = v18 := (f110 _ _ (fun q => absurd q.2 (by decide))).trans c104
                  have c113 : I107 a0 9 = v97 := (f110 _ _ (fun q => absurd q.2 (by decide))).trans e101
                  have r114 : v31 = m_by I107 R0 a0 v18 := r106.trans (m_by_kp d43 (f110 _ _ (fun q => absurd q.2 (by decide))) (fun i => f110 _ _ (fun q => by have z := ta42; rw [q.1, ta0] at z; exact absurd z (by decide))))
                  refine tr_aload_n dX12_goesOn_271 hl14 ?_
                  refine tr_dup dX12_goesOn_272 rfl ?_
                  refine q_getI dX12_goesOn_273 fl12_102 (kR15 hS108.1 ta0) c111 ?_
                  refine q_iconst dX12_goesOn_276 (by decide) ?_
                  intro v115 h116
                  refine q_iaddE dX12_goesOn_277 (by intros; omega) ?_
                  intro v117 h118
                  refine q_putI dX12_goesOn_278 fl12_102 (kR15 hS108.1 ta0) (Or.inl rfl) hS108 ta0 (by show (0 : Int) ≤ v117.toInt ∧ v117.toInt ≤ (900 : Int); omega) rfl (by decide +kernel) ?_
                  intro I119 hS120 e121 f122
                  have c123 : I119 a0 10 = v18 := (f122 _ _ (fun q => absurd q.2 (by decide))).trans c112
                  have c124 : I119 a0 9 = v97 := (f122 _ _ (fun q => absurd q.2 (by decide))).trans c113
                  have c125 : I119 a0 11 = v31 := (f122 _ _ (fun q => absurd q.2 (by decide))).trans e109
                  have r126 : v31 = m_by I119 R0 a0 v18 := r114.trans (m_by_kp d43 (f122 _ _ (fun q => absurd q.2 (by decide))) (fun i => f122 _ _ (fun q => by have z := ta42; rw [q.1, ta0] at z; exact absurd z (by decide))))
                  exact tr_vret hZ dX12_goesOn_281 rfl (by decide) (by decide) ⟨rfl, rfl, rfl, rfl, rfl, hS120, (by (try rw [c2]); (try rw [c124]); (try omega)), (by (try rw [c2]); (try rw [c124]); (try omega)), (by (try rw [e121]); (try rw [c5]); (try rw [((hS120.cell ta0 (by decide +kernel)).trans c8)]); (try rw [c8]); (try omega)), (by unfold RdI; (try rw [c2]); (try rw [c124]); (try rw [c5]); (try rw [e121]); (try rw [c8]); (try rw [((hS120.cell ta0 (by decide +kernel)).trans c8)]); (try rw [c10]); (try rw [((hS120.cell ta0 (by decide +kernel)).trans c10)]); omega), trivial⟩
                · skip
                  refine tr_iload_n dX12_goesOn_255 rfl ?_
                  refine q_bipush dX12_goesOn_256 (by decide +kernel) ?_
                  intro v127 h128
                  refine q_icmp_ne 281 dX12_goesOn_258 (by decide) (fun h129 => ?_) (fun h129 => ?_)
                  · skip
                    exact tr_vret hZ dX12_goesOn_281 rfl (by decide) (by decide) ⟨rfl, rfl, rfl, rfl, rfl, hS57, (by (try rw [c2]); (try rw [c62]); (try omega)), (by (try rw [c2]); (try rw [c62]); (try omega)), (by (try rw [c60]); (try rw [c5]); (try rw [((hS57.cell ta0 (by decide +kernel)).trans c8)]); (try rw [c8]); (try omega)), (by unfold RdI; (try rw [c2]); (try rw [c62]); (try rw [c5]); (try rw [c60]); (try rw [c8]); (try rw [((hS57.cell ta0 (by decide +kernel)).trans c8)]); (try rw [c10]); (try rw [((hS57.cell ta0 (by decide +kernel)).trans c10)]); omega), trivial⟩
                  · skip
                    refine tr_aload_n dX12_goesOn_261 hl14 ?_
                    refine q_iconst dX12_goesOn_262 (by decide) ?_
                    intro v130 h131
                    refine q_putI dX12_goesOn_263 fl12_99 (kR15 hS57.1 ta0) (Or.inl rfl) hS57 ta0 (by show (0 : Int) ≤ v130.toInt ∧ v130.toInt ≤ (5 : Int); omega) rfl (by decide +kernel) ?_
                    intro I132 hS133 e134 f135
                    have c136 : I132 a0 8 = v18 := (f135 _ _ (fun q => absurd q.2 (by decide))).trans c60
                    have c137 : I132 a0 10 = v18 := (f135 _ _ (fun q => absurd q.2 (by decide))).trans c61
                    have c138 : I132 a0 11 = v54 := (f135 _ _ (fun q => absurd q.2 (by decide))).trans e58
                    have r139 : v31 = m_by I132 R0 a0 v18 := r63.trans (m_by_kp d43 (f135 _ _ (fun q => absurd q.2 (by decide))) (fun i => f135 _ _ (fun q => by have z := ta42; rw [q.1, ta0] at z; exact absurd z (by decide))))
                    refine tr_aload_n dX12_goesOn_266 hl14 ?_
                    refine tr_iload_n dX12_goesOn_267 rfl ?_
                    refine q_putI dX12_goesOn_268 fl12_111 (kR15 hS133.1 ta0) (Or.inl rfl) hS133 ta0 (iokF rfl) rfl (by decide +kernel) ?_
                    intro I140 hS141 e142 f143
                    have c144 : I140 a0 8 = v18 := (f143 _ _ (fun q => absurd q.2 (by decide))).trans c136
                    have c145 : I140 a0 10 = v18 := (f143 _ _ (fun q => absurd q.2 (by decide))).trans c137
                    have c146 : I140 a0 9 = v130 := (f143 _ _ (fun q => absurd q.2 (by decide))).trans e134
                    have r147 : v31 = m_by I140 R0 a0 v18 := r139.trans (m_by_kp d43 (f143 _ _ (fun q => absurd q.2 (by decide))) (fun i => f143 _ _ (fun q => by have z := ta42; rw [q.1, ta0] at z; exact absurd z (by decide))))
                    refine tr_aload_n dX12_goesOn_271 hl14 ?_
                    refine tr_dup dX12_goesOn_272 rfl ?_
                    refine q_getI dX12_goesOn_273 fl12_102 (kR15 hS141.1 ta0) c144 ?_
                    refine q_iconst dX12_goesOn_276 (by decide) ?_
                    intro v148 h149
                    refine q_iaddE dX12_goesOn_277 (by intros; omega) ?_
                    intro v150 h151
                    refine q_putI dX12_goesOn_278 fl12_102 (kR15 hS141.1 ta0) (Or.inl rfl) hS141 ta0 (by show (0 : Int) ≤ v150.toInt ∧ v150.toInt ≤ (900 : Int); omega) rfl (by decide +kernel) ?_
                    intro I152 hS153 e154 f155
                    have c156 : I152 a0 10 = v18 := (f155 _ _ (fun q => absurd q.2 (by decide))).trans c145
                    have c157 : I152 a0 9 = v130 := (f155 _ _ (fun q => absurd q.2 (by decide))).trans c146
                    have c158 : I152 a0 11 = v31 := (f155 _ _ (fun q => absurd q.2 (by decide))).trans e142
                    have r159 : v31 = m_by I152 R0 a0 v18 := r147.trans (m_by_kp d43 (f155 _ _ (fun q => absurd q.2 (by decide))) (fun i => f155 _ _ (fun q => by have z := ta42; rw [q.1, ta0] at z; exact absurd z (by decide))))
                    exact tr_vret hZ dX12_goesOn_281 rfl (by decide) (by decide) ⟨rfl, rfl, rfl, rfl, rfl, hS153, (by (try rw [c2]); (try rw [c157]); (try omega)), (by (try rw [c2]); (try rw [c157]); (try omega)), (by (try rw [e154]); (try rw [c5]); (try rw [((hS153.cell ta0 (by decide +kernel)).trans c8)]); (try rw [c8]); (try omega)), (by unfold RdI; (try rw [c2]); (try rw [c157]); (try rw [c5]); (try rw [e154]); (try rw [c8]); (try rw [((hS153.cell ta0 (by decide +kernel)).trans c8)]); (try rw [c10]); (try rw [((hS153.cell ta0 (by decide +kernel)).trans c10)]); omega), trivial⟩
              · skip
                refine tr_aload_n dX12_goesOn_173 hl14 ?_
                refine q_iconst dX12_goesOn_174 (by decide) ?_
                intro v160 h161
                refine q_putI dX12_goesOn_175 fl12_125 (kR15 hS57.1 ta0) (Or.inl rfl) hS57 ta0 (iokF rfl) rfl (by decide +kernel) ?_
                intro I162 hS163 e164 f165
                have c166 : I162 a0 8 = v18 := (f165 _ _ (fun q => absurd q.2 (by decide))).trans c60
                have c167 : I162 a0 10 = v18 := (f165 _ _ (fun q => absurd q.2 (by decide))).trans c61
                have c168 : I162 a0 9 = v45 := (f165 _ _ (fun q => absurd q.2 (by decide))).trans c62
                have c169 : I162 a0 11 = v54 := (f165 _ _ (fun q => absurd q.2 (by decide))).trans e58
                have r170 : v31 = m_by I162 R0 a0 v18 := r63.trans (m_by_kp d43 (f165 _ _ (fun q => absurd q.2 (by decide))) (fun i => f165 _ _ (fun q => by have z := ta42; rw [q.1, ta0] at z; exact absurd z (by decide))))
                refine tr_aload_n dX12_goesOn_178 hl14 ?_
                refine tr_aload_n dX12_goesOn_179 hl14 ?_
                refine q_getI dX12_goesOn_180 fl12_102 (kR15 hS163.1 ta0) c166 ?_
                refine q_callVi hE (M' := mX12_byteAt) (as := [_]) dX12_goesOn_183 lk12_105 inX12_byteAt seX12_byteAt myX12_byteAt (by decide) ⟨by decide, by decide⟩ rfl (kR15 hS163.1 ta0) (Nat.le_of_ble_eq_true rfl) rfl rfl (by decide) (by decide) (k_X12_byteAt hS163.1 ta0 (by omega)) ?_
                rintro v175 cn' K' N' I171 R172 L173 ⟨rfl, rfl, rfl, rfl, rfl, rfl, p176, r177, -⟩
                obtain rfl : v31 = v175 := r170.trans r177.symm
                rw [((hS163.cell ta0 (by decide +kernel)).trans c25)] at p176
                refine q_callSi hE (M' := mX12_isDigit) (as := [_]) dX12_goesOn_186 lk12_122 inX12_isDigit myX12_isDigit ⟨by decide, by decide⟩ rfl (Nat.le_of_ble_eq_true rfl) rfl rfl (by decide) (by decide) (k_X12_isDigit hS163.1 ) ?_
                rintro v182 cn' K' N' I178 R179 L180 ⟨rfl, rfl, rfl, rfl, rfl, rfl, h183, p184, p185, -⟩
                refine q_if_eq 236 dX12_goesOn_189 (by decide) (fun h186 => ?_) (fun h186 => ?_)
                · skip
                  exfalso; omega
                · skip
                  refine tr_iload_n dX12_goesOn_192 rfl ?_
                  refine q_iconst dX12_goesOn_193 (by decide) ?_
                  intro v187 h188
                  refine q_icmp_ge 220 dX12_goesOn_194 (by decide) (fun h189 => ?_) (fun h189 => ?_)
                  · skip
                    exfalso; omega
                  · skip
                    refine tr_aload_n dX12_goesOn_197 hl14 ?_
                    refine q_bipush dX12_goesOn_198 (by decide +kernel) ?_
                    intro v190 h191
                    refine tr_aload_n dX12_goesOn_200 hl14 ?_
                    refine q_getI dX12_goesOn_201 fl12_125 (kR15 hS163.1 ta0) e164 ?_
                    refine q_imulE (c := 10) dX12_goesOn_204 (by omega) (by omega) ?_
                    intro v192 h193
                    refine tr_aload_n dX12_goesOn_205 hl14 ?_
                    refine tr_aload_n dX12_goesOn_206 hl14 ?_
                    refine q_getI dX12_goesOn_207 fl12_102 (kR15 hS163.1 ta0) c166 ?_
                    refine q_callVi hE (M' := mX12_byteAt) (as := [_]) dX12_goesOn_210 lk12_105 inX12_byteAt seX12_byteAt myX12_byteAt (by decide) ⟨by decide, by decide⟩ rfl (kR15 hS163.1 ta0) (Nat.le_of_ble_eq_true rfl) rfl rfl (by decide) (by decide) (k_X12_byteAt hS163.1 ta0 (by omega)) ?_
                    rintro v198 cn' K' N' I194 R195 L196 ⟨rfl, rfl, rfl, rfl, rfl, rfl, p199, r200, -⟩
                    obtain rfl : v31 = v198 := r170.trans r200.symm
                    rw [((hS163.cell ta0 (by decide +kernel)).trans c25)] at p199
                    refine q_iaddE dX12_goesOn_213 (by intros; omega) ?_
                    intro v201 h202
                    refine q_bipush dX12_goesOn_214 (by decide +kernel) ?_
                    intro v203 h204
                    refine q_isubE dX12_goesOn_216 (by intros; omega) ?_
                    intro v205 h206
                    refine q_putI dX12_goesOn_217 fl12_125 (kR15 hS163.1 ta0) (Or.inl rfl) hS163 ta0 (iokF rfl) rfl (by decide +kernel) ?_
                    intro I207 hS208 e209 f210
                    have c211 : I207 a0 8 = v18 := (f210 _ _ (fun q => absurd q.2 (by decide))).trans c166
                    have c212 : I207 a0 10 = v18 := (f210 _ _ (fun q => absurd q.2 (by decide))).trans c167
                    have c213 : I207 a0 9 = v45 := (f210 _ _ (fun q => absurd q.2 (by decide))).trans c168
                    have c214 : I207 a0 11 = v54 := (f210 _ _ (fun q => absurd q.2 (by decide))).trans c169
                    have r215 : v31 = m_by I207 R0 a0 v18 := r170.trans (m_by_kp d43 (f210 _ _ (fun q => absurd q.2 (by decide))) (fun i => f210 _ _ (fun q => by have z := ta42; rw [q.1, ta0] at z; exact absurd z (by decide))))
                    refine q_iincE dX12_goesOn_220 rfl (by decide) (by decide) (by intros; omega) ?_
                    intro v216 h217
                    refine tr_aload_n dX12_goesOn_223 hl14 ?_
                    refine tr_dup dX12_goesOn_224 rfl ?_
                    refine q_getI dX12_goesOn_225 fl12_102 (kR15 hS208.1 ta0) c211 ?_
                    refine q_iconst dX12_goesOn_228 (by decide) ?_
                    intro v218 h219
                    refine q_iaddE dX12_goesOn_229 (by intros; omega) ?_
                    intro v220 h221
                    refine q_putI dX12_goesOn_230 fl12_102 (kR15 hS208.1 ta0) (Or.inl rfl) hS208 ta0 (by show (0 : Int) ≤ v220.toInt ∧ v220.toInt ≤ (900 : Int); omega) rfl (by decide +kernel) ?_
                    intro I222 hS223 e224 f225
                    have c226 : I222 a0 10 = v18 := (f225 _ _ (fun q => absurd q.2 (by decide))).trans c212
                    have c227 : I222 a0 9 = v45 := (f225 _ _ (fun q => absurd q.2 (by decide))).trans c213
                    have c228 : I222 a0 11 = v54 := (f225 _ _ (fun q => absurd q.2 (by decide))).trans c214
                    have c229 : I222 a0 12 = v205 := (f225 _ _ (fun q => absurd q.2 (by decide))).trans e209
                    have r230 : v31 = m_by I222 R0 a0 v18 := r215.trans (m_by_kp d43 (f225 _ _ (fun q => absurd q.2 (by decide))) (fun i => f225 _ _ (fun q => by have z := ta42; rw [q.1, ta0] at z; exact absurd z (by decide))))
                    refine tr_goto 178 dX12_goesOn_233 (by decide) ?_
                    have lp244 : ∀ (fu : Nat) (ls : Nat → Option Value) (v231 : Int32) (I235 : cz_I) (L236 : cz_L) (v238 : Int32) (v240 : Int32), ls 0 = some (.ref a0) → ls 1 = some (.int v31) → ls 2 = some (.int v231) → St T cn K N d wi_X12_goesOn wr_X12_goesOn I0 R0 I235 R0 → I235 a0 8 = v238 → I235 a0 9 = v240 → v240.toInt = 0 → v238.toInt ≥ v4.toInt + 1 → (-v238.toInt + 900).toNat < fu → Tr X mX12_goesOn 178 ls [] cn K N I235 R0 L236 0 0 := by
                      intro fu
                      induction fu with
                      | zero => intros; rename_i hz; exact absurd hz (Nat.not_lt_zero _)
                      | succ fu ih244 =>
                        intro ls v231 I235 L236 v238 v240 hl232 hl233 hl234 hS237 c239 c241 g242 g243 hm244
                        have b246 := iv15_8 hS237.1 ta0 c239
                        have b247 := iv15_9 hS237.1 ta0 c241
                        refine tr_aload_n dX12_goesOn_178 hl232 ?_
                        refine tr_aload_n dX12_goesOn_179 hl232 ?_
                        refine q_getI dX12_goesOn_180 fl12_102 (kR15 hS237.1 ta0) c239 ?_
                        refine q_callVi hE (M' := mX12_byteAt) (as := [_]) dX12_goesOn_183 lk12_105 inX12_byteAt seX12_byteAt myX12_byteAt (by decide) ⟨by decide, by decide⟩ rfl (kR15 hS237.1 ta0) (Nat.le_of_ble_eq_true rfl) rfl rfl (by decide) (by decide) (k_X12_byteAt hS237.1 ta0 (by omega)) ?_
                        rintro v252 cn' K' N' I248 R249 L250 ⟨rfl, rfl, rfl, rfl, rfl, rfl, p253, r254, -⟩
                        rw [((hS237.cell ta0 (by decide +kernel)).trans c25)] at p253
                        refine q_callSi hE (M' := mX12_isDigit) (as := [_]) dX12_goesOn_186 lk12_122 inX12_isDigit myX12_isDigit ⟨by decide, by decide⟩ rfl (Nat.le_of_ble_eq_true rfl) rfl rfl (by decide) (by decide) (k_X12_isDigit hS237.1 ) ?_
                        rintro v259 cn' K' N' I255 R256 L257 ⟨rfl, rfl, rfl, rfl, rfl, rfl, h260, p261, p262, -⟩
                        refine q_if_eq 236 dX12_goesOn_189 (by decide) (fun h263 => ?_) (fun h263 => ?_)
                        · skip
                          refine tr_iload_n dX12_goesOn_236 hl234 ?_
                          refine q_iconst dX12_goesOn_237 (by decide) ?_
                          intro v264 h265
                          refine q_icmp_gt 281 dX12_goesOn_238 (by decide) (fun h266 => ?_) (fun h266 => ?_)
                          · skip
                            exact tr_vret hZ dX12_goesOn_281 rfl (by decide) (by decide) ⟨rfl, rfl, rfl, rfl, rfl, hS237, (by (try rw [c2]); (try rw [c241]); (try omega)), (by (try rw [c2]); (try rw [c241]); (try omega)), (by (try rw [c239]); (try rw [c5]); (try rw [((hS237.cell ta0 (by decide +kernel)).trans c8)]); (try rw [c8]); (try omega)), (by unfold RdI; (try rw [c2]); (try rw [c241]); (try rw [c5]); (try rw [c239]); (try rw [c8]); (try rw [((hS237.cell ta0 (by decide +kernel)).trans c8)]); (try rw [c10]); (try rw [((hS237.cell ta0 (by decide +kernel)).trans c10)]); omega), trivial⟩
                          · skip
                            refine tr_aload_n dX12_goesOn_241 hl232 ?_
                            refine q_iconst dX12_goesOn_242 (by decide) ?_
                            intro v267 h268
                            refine q_putI dX12_goesOn_243 fl12_99 (kR15 hS237.1 ta0) (Or.inl rfl) hS237 ta0 (by show (0 : Int) ≤ v267.toInt ∧ v267.toInt ≤ (5 : Int); omega) rfl (by decide +kernel) ?_
                            intro I269 hS270 e271 f272
                            have c273 : I269 a0 8 = v238 := (f272 _ _ (fun q => absurd q.2 (by decide))).trans c239
                            have r274 : v252 = m_by I269 R0 a0 v238 := r254.trans (m_by_kp d43 (f272 _ _ (fun q => absurd q.2 (by decide))) (fun i => f272 _ _ (fun q => by have z := ta42; rw [q.1, ta0] at z; exact absurd z (by decide))))
                            refine tr_goto 281 dX12_goesOn_246 (by decide) ?_
                            exact tr_vret hZ dX12_goesOn_281 rfl (by decide) (by decide) ⟨rfl, rfl, rfl, rfl, rfl, hS270, (by (try rw [c2]); (try rw [e271]); (try omega)), (by (try rw [c2]); (try rw [e271]); (try omega)), (by (try rw [c273]); (try rw [c5]); (try rw [((hS270.cell ta0 (by decide +kernel)).trans c8)]); (try rw [c8]); (try omega)), (by unfold RdI; (try rw [c2]); (try rw [e271]); (try rw [c5]); (try rw [c273]); (try rw [c8]); (try rw [((hS270.cell ta0 (by decide +kernel)).trans c8)]); (try rw [c10]); (try rw [((hS270.cell ta0 (by decide +kernel)).trans c10)]); omega), trivial⟩
                        · skip
                          refine tr_iload_n dX12_goesOn_192 hl234 ?_
                          refine q_iconst dX12_goesOn_193 (by decide) ?_
                          intro v275 h276
                          refine q_icmp_ge 220 dX12_goesOn_194 (by decide) (fun h277 => ?_) (fun h277 => ?_)
                          · skip
                            refine q_iinc dX12_goesOn_220 hl234 (by decide) ?_
                            intro v278
                            refine tr_aload_n dX12_goesOn_223 hl232 ?_
                            refine tr_dup dX12_goesOn_224 rfl ?_
                            refine q_getI dX12_goesOn_225 fl12_102 (kR15 hS237.1 ta0) c239 ?_
                            refine q_iconst dX12_goesOn_228 (by decide) ?_
                            intro v279 h280
                            refine q_iaddE dX12_goesOn_229 (by intros; omega) ?_
                            intro v281 h282
                            refine q_putI dX12_goesOn_230 fl12_102 (kR15 hS237.1 ta0) (Or.inl rfl) hS237 ta0 (by show (0 : Int) ≤ v281.toInt ∧ v281.toInt ≤ (900 : Int); omega) rfl (by decide +kernel) ?_
                            intro I283 hS284 e285 f286
                            have c287 : I283 a0 9 = v240 := (f286 _ _ (fun q => absurd q.2 (by decide))).trans c241
                            have r288 : v252 = m_by I283 R0 a0 v238 := r254.trans (m_by_kp d43 (f286 _ _ (fun q => absurd q.2 (by decide))) (fun i => f286 _ _ (fun q => by have z := ta42; rw [q.1, ta0] at z; exact absurd z (by decide))))
                            refine tr_goto 178 dX12_goesOn_233 (by decide) ?_
                            exact ih244 _ v278 I283 L236 v281 v240 hl232 hl233 rfl hS284 e285 c287 (by omega) (by omega) (by omega)
                          · skip
                            refine tr_aload_n dX12_goesOn_197 hl232 ?_
                            refine q_bipush dX12_goesOn_198 (by decide +kernel) ?_
                            intro v289 h290
                            refine tr_aload_n dX12_goesOn_200 hl232 ?_
                            obtain ⟨v291, c292⟩ : ∃ v, I235 a0 12 = v := ⟨_, rfl⟩
                            refine q_getI dX12_goesOn_201 fl12_125 (kR15 hS237.1 ta0) c292 ?_
                            refine q_imul dX12_goesOn_204 ?_
                            intro v293
                            refine tr_aload_n dX12_goesOn_205 hl232 ?_
                            refine tr_aload_n dX12_goesOn_206 hl232 ?_
                            refine q_getI dX12_goesOn_207 fl12_102 (kR15 hS237.1 ta0) c239 ?_
                            refine q_callVi hE (M' := mX12_byteAt) (as := [_]) dX12_goesOn_210 lk12_105 inX12_byteAt seX12_byteAt myX12_byteAt (by decide) ⟨by decide, by decide⟩ rfl (kR15 hS237.1 ta0) (Nat.le_of_ble_eq_true rfl) rfl rfl (by decide) (by decide) (k_X12_byteAt hS237.1 ta0 (by omega)) ?_
                            rintro v298 cn' K' N' I294 R295 L296 ⟨rfl, rfl, rfl, rfl, rfl, rfl, p299, r300, -⟩
                            obtain rfl : v252 = v298 := r254.trans r300.symm
                            rw [((hS237.cell ta0 (by decide +kernel)).trans c25)] at p299
                            refine q_iadd dX12_goesOn_213 ?_
                            intro v301
                            refine q_bipush dX12_goesOn_214 (by decide +kernel) ?_
                            intro v302 h303
                            refine q_isub dX12_goesOn_216 ?_
                            intro v304
                            refine q_putI dX12_goesOn_217 fl12_125 (kR15 hS237.1 ta0) (Or.inl rfl) hS237 ta0 (iokF rfl) rfl (by decide +kernel) ?_
                            intro I305 hS306 e307 f308
                            have c309 : I305 a0 8 = v238 := (f308 _ _ (fun q => absurd q.2 (by decide))).trans c239
                            have c310 : I305 a0 9 = v240 := (f308 _ _ (fun q => absurd q.2 (by decide))).trans c241
                            have r311 : v252 = m_by I305 R0 a0 v238 := r254.trans (m_by_kp d43 (f308 _ _ (fun q => absurd q.2 (by decide))) (fun i => f308 _ _ (fun q => by have z := ta42; rw [q.1, ta0] at z; exact absurd z (by decide))))
                            refine q_iincE dX12_goesOn_220 hl234 (by decide) (by decide) (by intros; omega) ?_
                            intro v312 h313
                            refine tr_aload_n dX12_goesOn_223 hl232 ?_
                            refine tr_dup dX12_goesOn_224 rfl ?_
                            refine q_getI dX12_goesOn_225 fl12_102 (kR15 hS306.1 ta0) c309 ?_
                            refine q_iconst dX12_goesOn_228 (by decide) ?_
                            intro v314 h315
                            refine q_iaddE dX12_goesOn_229 (by intros; omega) ?_
                            intro v316 h317
                            refine q_putI dX12_goesOn_230 fl12_102 (kR15 hS306.1 ta0) (Or.inl rfl) hS306 ta0 (by show (0 : Int) ≤ v316.toInt ∧ v316.toInt ≤ (900 : Int); omega) rfl (by decide +kernel) ?_
                            intro I318 hS319 e320 f321
                            have c322 : I318 a0 9 = v240 := (f321 _ _ (fun q => absurd q.2 (by decide))).trans c310
                            have c323 : I318 a0 12 = v304 := (f321 _ _ (fun q => absurd q.2 (by decide))).trans e307
                            have r324 : v252 = m_by I318 R0 a0 v238 := r311.trans (m_by_kp d43 (f321 _ _ (fun q => absurd q.2 (by decide))) (fun i => f321 _ _ (fun q => by have z := ta42; rw [q.1, ta0] at z; exact absurd z (by decide))))
                            refine tr_goto 178 dX12_goesOn_233 (by decide) ?_
                            exact ih244 _ v312 I318 L236 v316 v240 hl232 hl233 rfl hS319 e320 c322 (by omega) (by omega) (by omega)
                    exact lp244 _ _ v216 I222 L16 v220 v45 hl14 rfl rfl hS223 e224 c227 (by omega) (by omega) (Nat.lt_succ_self _)
            · skip
              refine tr_aload_n dX12_goesOn_84 hl14 ?_
              refine q_lconst dX12_goesOn_85 ?_
              intro y325
              refine q_putL dX12_goesOn_86 fl12_118 (kR15 hS57.1 ta0) (Or.inl rfl) ?_
              intro L326
              refine tr_aload_n dX12_goesOn_89 hl14 ?_
              refine tr_aload_n dX12_goesOn_90 hl14 ?_
              refine q_getI dX12_goesOn_91 fl12_102 (kR15 hS57.1 ta0) c60 ?_
              refine q_callVi hE (M' := mX12_byteAt) (as := [_]) dX12_goesOn_94 lk12_105 inX12_byteAt seX12_byteAt myX12_byteAt (by decide) ⟨by decide, by decide⟩ rfl (kR15 hS57.1 ta0) (Nat.le_of_ble_eq_true rfl) rfl rfl (by decide) (by decide) (k_X12_byteAt hS57.1 ta0 (by omega)) ?_
              rintro v331 cn' K' N' I327 R328 L329 ⟨rfl, rfl, rfl, rfl, rfl, rfl, p332, r333, -⟩
              obtain rfl : v31 = v331 := r63.trans r333.symm
              rw [((hS57.cell ta0 (by decide +kernel)).trans c25)] at p332
              refine q_callSi hE (M' := mX12_isLetter) (as := [_]) dX12_goesOn_97 lk12_114 inX12_isLetter myX12_isLetter ⟨by decide, by decide⟩ rfl (Nat.le_of_ble_eq_true rfl) rfl rfl (by decide) (by decide) (k_X12_isLetter hS57.1 ) ?_
              rintro v338 cn' K' N' I334 R335 L336 ⟨rfl, rfl, rfl, rfl, rfl, rfl, h339, p340, p341, -⟩
              refine q_if_eq 152 dX12_goesOn_100 (by decide) (fun h342 => ?_) (fun h342 => ?_)
              · skip
                exfalso; omega
              · skip
                refine tr_iload_n dX12_goesOn_103 rfl ?_
                refine q_bipush dX12_goesOn_104 (by decide +kernel) ?_
                intro v343 h344
                refine q_icmp_ge 136 dX12_goesOn_106 (by decide) (fun h345 => ?_) (fun h345 => ?_)
                · skip
                  exfalso; omega
                · skip
                  refine tr_aload_n dX12_goesOn_109 hl14 ?_
                  refine q_ldc2 dX12_goesOn_110 ld12_93 ?_
                  intro y346
                  refine tr_aload_n dX12_goesOn_113 hl14 ?_
                  refine q_getL dX12_goesOn_114 fl12_118 (kR15 hS57.1 ta0) ?_
                  intro y347
                  refine q_lmul dX12_goesOn_117 ?_
                  intro y348
                  refine tr_aload_n dX12_goesOn_118 hl14 ?_
                  refine tr_aload_n dX12_goesOn_119 hl14 ?_
                  refine q_getI dX12_goesOn_120 fl12_102 (kR15 hS57.1 ta0) c60 ?_
                  refine q_callVi hE (M' := mX12_byteAt) (as := [_]) dX12_goesOn_123 lk12_105 inX12_byteAt seX12_byteAt myX12_byteAt (by decide) ⟨by decide, by decide⟩ rfl (kR15 hS57.1 ta0) (Nat.le_of_ble_eq_true rfl) rfl rfl (by decide) (by decide) (k_X12_byteAt hS57.1 ta0 (by omega)) ?_
                  rintro v353 cn' K' N' I349 R350 L351 ⟨rfl, rfl, rfl, rfl, rfl, rfl, p354, r355, -⟩
                  obtain rfl : v31 = v353 := r63.trans r355.symm
                  rw [((hS57.cell ta0 (by decide +kernel)).trans c25)] at p354
                  refine q_bipush dX12_goesOn_126 (by decide +kernel) ?_
                  intro v356 h357
                  refine q_isubE dX12_goesOn_128 (by intros; omega) ?_
                  intro v358 h359
                  refine q_iconst dX12_goesOn_129 (by decide) ?_
                  intro v360 h361
                  refine q_iaddE dX12_goesOn_130 (by intros; omega) ?_
                  intro v362 h363
                  refine q_i2l dX12_goesOn_131 ?_
                  intro y364
                  refine q_ladd dX12_goesOn_132 ?_
                  intro y365
                  refine q_putL dX12_goesOn_133 fl12_118 (kR15 hS57.1 ta0) (Or.inl rfl) ?_
                  intro L366
                  refine q_iincE dX12_goesOn_136 rfl (by decide) (by decide) (by intros; omega) ?_
                  intro v367 h368
                  refine tr_aload_n dX12_goesOn_139 hl14 ?_
                  refine tr_dup dX12_goesOn_140 rfl ?_
                  refine q_getI dX12_goesOn_141 fl12_102 (kR15 hS57.1 ta0) c60 ?_
                  refine q_iconst dX12_goesOn_144 (by decide) ?_
                  intro v369 h370
                  refine q_iaddE dX12_goesOn_145 (by intros; omega) ?_
                  intro v371 h372
                  refine q_putI dX12_goesOn_146 fl12_102 (kR15 hS57.1 ta0) (Or.inl rfl) hS57 ta0 (by show (0 : Int) ≤ v371.toInt ∧ v371.toInt ≤ (900 : Int); omega) rfl (by decide +kernel) ?_
                  intro I373 hS374 e375 f376
                  have c377 : I373 a0 10 = v18 := (f376 _ _ (fun q => absurd q.2 (by decide))).trans c61
                  have c378 : I373 a0 9 = v45 := (f376 _ _ (fun q => absurd q.2 (by decide))).trans c62
                  have c379 : I373 a0 11 = v54 := (f376 _ _ (fun q => absurd q.2 (by decide))).trans e58
                  have r380 : v31 = m_by I373 R0 a0 v18 := r63.trans (m_by_kp d43 (f376 _ _ (fun q => absurd q.2 (by decide))) (fun i => f376 _ _ (fun q => by have z := ta42; rw [q.1, ta0] at z; exact absurd z (by decide))))
                  refine tr_goto 89 dX12_goesOn_149 (by decide) ?_
                  have lp394 : ∀ (fu : Nat) (ls : Nat → Option Value) (v381 : Int32) (I385 : cz_I) (L386 : cz_L) (v388 : Int32) (v390 : Int32), ls 0 = some (.ref a0) → ls 1 = some (.int v31) → ls 2 = some (.int v381) → St T cn K N d wi_X12_goesOn wr_X12_goesOn I0 R0 I385 R0 → I385 a0 8 = v388 → I385 a0 9 = v390 → v390.toInt = 0 → v388.toInt ≥ v4.toInt + 1 → (-v388.toInt + 900).toNat < fu → Tr X mX12_goesOn 89 ls [] cn K N I385 R0 L386 0 0 := by
                    intro fu
                    induction fu with
                    | zero => intros; rename_i hz; exact absurd hz (Nat.not_lt_zero _)
                    | succ fu ih394 =>
                      intro ls v381 I385 L386 v388 v390 hl382 hl383 hl384 hS387 c389 c391 g392 g393 hm394
                      have b396 := iv15_8 hS387.1 ta0 c389
                      have b397 := iv15_9 hS387.1 ta0 c391
                      refine tr_aload_n dX12_goesOn_89 hl382 ?_
                      refine tr_aload_n dX12_goesOn_90 hl382 ?_
                      refine q_getI dX12_goesOn_91 fl12_102 (kR15 hS387.1 ta0) c389 ?_
                      refine q_callVi hE (M' := mX12_byteAt) (as := [_]) dX12_goesOn_94 lk12_105 inX12_byteAt seX12_byteAt myX12_byteAt (by decide) ⟨by decide, by decide⟩ rfl (kR15 hS387.1 ta0) (Nat.le_of_ble_eq_true rfl) rfl rfl (by decide) (by decide) (k_X12_byteAt hS387.1 ta0 (by omega)) ?_
                      rintro v402 cn' K' N' I398 R399 L400 ⟨rfl, rfl, rfl, rfl, rfl, rfl, p403, r404, -⟩
                      rw [((hS387.cell ta0 (by decide +kernel)).trans c25)] at p403
                      refine q_callSi hE (M' := mX12_isLetter) (as := [_]) dX12_goesOn_97 lk12_114 inX12_isLetter myX12_isLetter ⟨by decide, by decide⟩ rfl (Nat.le_of_ble_eq_true rfl) rfl rfl (by decide) (by decide) (k_X12_isLetter hS387.1 ) ?_
                      rintro v409 cn' K' N' I405 R406 L407 ⟨rfl, rfl, rfl, rfl, rfl, rfl, h410, p411, p412, -⟩
                      refine q_if_eq 152 dX12_goesOn_100 (by decide) (fun h413 => ?_) (fun h413 => ?_)
                      · skip
                        refine tr_iload_n dX12_goesOn_152 hl384 ?_
                        refine q_bipush dX12_goesOn_153 (by decide +kernel) ?_
                        intro v414 h415
                        refine q_icmp_gt 281 dX12_goesOn_155 (by decide) (fun h416 => ?_) (fun h416 => ?_)
                        · skip
                          exact tr_vret hZ dX12_goesOn_281 rfl (by decide) (by decide) ⟨rfl, rfl, rfl, rfl, rfl, hS387, (by (try rw [c2]); (try rw [c391]); (try omega)), (by (try rw [c2]); (try rw [c391]); (try omega)), (by (try rw [c389]); (try rw [c5]); (try rw [((hS387.cell ta0 (by decide +kernel)).trans c8)]); (try rw [c8]); (try omega)), (by unfold RdI; (try rw [c2]); (try rw [c391]); (try rw [c5]); (try rw [c389]); (try rw [c8]); (try rw [((hS387.cell ta0 (by decide +kernel)).trans c8)]); (try rw [c10]); (try rw [((hS387.cell ta0 (by decide +kernel)).trans c10)]); omega), trivial⟩
                        · skip
                          refine tr_aload_n dX12_goesOn_158 hl382 ?_
                          refine q_iconst dX12_goesOn_159 (by decide) ?_
                          intro v417 h418
                          refine q_putI dX12_goesOn_160 fl12_99 (kR15 hS387.1 ta0) (Or.inl rfl) hS387 ta0 (by show (0 : Int) ≤ v417.toInt ∧ v417.toInt ≤ (5 : Int); omega) rfl (by decide +kernel) ?_
                          intro I419 hS420 e421 f422
                          have c423 : I419 a0 8 = v388 := (f422 _ _ (fun q => absurd q.2 (by decide))).trans c389
                          have r424 : v402 = m_by I419 R0 a0 v388 := r404.trans (m_by_kp d43 (f422 _ _ (fun q => absurd q.2 (by decide))) (fun i => f422 _ _ (fun q => by have z := ta42; rw [q.1, ta0] at z; exact absurd z (by decide))))
                          refine tr_goto 281 dX12_goesOn_163 (by decide) ?_
                          exact tr_vret hZ dX12_goesOn_281 rfl (by decide) (by decide) ⟨rfl, rfl, rfl, rfl, rfl, hS420, (by (try rw [c2]); (try rw [e421]); (try omega)), (by (try rw [c2]); (try rw [e421]); (try omega)), (by (try rw [c423]); (try rw [c5]); (try rw [((hS420.cell ta0 (by decide +kernel)).trans c8)]); (try rw [c8]); (try omega)), (by unfold RdI; (try rw [c2]); (try rw [e421]); (try rw [c5]); (try rw [c423]); (try rw [c8]); (try rw [((hS420.cell ta0 (by decide +kernel)).trans c8)]); (try rw [c10]); (try rw [((hS420.cell ta0 (by decide +kernel)).trans c10)]); omega), trivial⟩
                      · skip
                        refine tr_iload_n dX12_goesOn_103 hl384 ?_
                        refine q_bipush dX12_goesOn_104 (by decide +kernel) ?_
                        intro v425 h426
                        refine q_icmp_ge 136 dX12_goesOn_106 (by decide) (fun h427 => ?_) (fun h427 => ?_)
                        · skip
                          refine q_iinc dX12_goesOn_136 hl384 (by decide) ?_
                          intro v428
                          refine tr_aload_n dX12_goesOn_139 hl382 ?_
                          refine tr_dup dX12_goesOn_140 rfl ?_
                          refine q_getI dX12_goesOn_141 fl12_102 (kR15 hS387.1 ta0) c389 ?_
                          refine q_iconst dX12_goesOn_144 (by decide) ?_
                          intro v429 h430
                          refine q_iaddE dX12_goesOn_145 (by intros; omega) ?_
                          intro v431 h432
                          refine q_putI dX12_goesOn_146 fl12_102 (kR15 hS387.1 ta0) (Or.inl rfl) hS387 ta0 (by show (0 : Int) ≤ v431.toInt ∧ v431.toInt ≤ (900 : Int); omega) rfl (by decide +kernel) ?_
                          intro I433 hS434 e435 f436
                          have c437 : I433 a0 9 = v390 := (f436 _ _ (fun q => absurd q.2 (by decide))).trans c391
                          have r438 : v402 = m_by I433 R0 a0 v388 := r404.trans (m_by_kp d43 (f436 _ _ (fun q => absurd q.2 (by decide))) (fun i => f436 _ _ (fun q => by have z := ta42; rw [q.1, ta0] at z; exact absurd z (by decide))))
                          refine tr_goto 89 dX12_goesOn_149 (by decide) ?_
                          exact ih394 _ v428 I433 L386 v431 v390 hl382 hl383 rfl hS434 e435 c437 (by omega) (by omega) (by omega)
                        · skip
                          refine tr_aload_n dX12_goesOn_109 hl382 ?_
                          refine q_ldc2 dX12_goesOn_110 ld12_93 ?_
                          intro y439
                          refine tr_aload_n dX12_goesOn_113 hl382 ?_
                          refine q_getL dX12_goesOn_114 fl12_118 (kR15 hS387.1 ta0) ?_
                          intro y440
                          refine q_lmul dX12_goesOn_117 ?_
                          intro y441
                          refine tr_aload_n dX12_goesOn_118 hl382 ?_
                          refine tr_aload_n dX12_goesOn_119 hl382 ?_
                          refine q_getI dX12_goesOn_120 fl12_102 (kR15 hS387.1 ta0) c389 ?_
                          refine q_callVi hE (M' := mX12_byteAt) (as := [_]) dX12_goesOn_123 lk12_105 inX12_byteAt seX12_byteAt myX12_byteAt (by decide) ⟨by decide, by decide⟩ rfl (kR15 hS387.1 ta0) (Nat.le_of_ble_eq_true rfl) rfl rfl (by decide) (by decide) (k_X12_byteAt hS387.1 ta0 (by omega)) ?_
                          rintro v446 cn' K' N' I442 R443 L444 ⟨rfl, rfl, rfl, rfl, rfl, rfl, p447, r448, -⟩
                          obtain rfl : v402 = v446 := r404.trans r448.symm
                          rw [((hS387.cell ta0 (by decide +kernel)).trans c25)] at p447
                          refine q_bipush dX12_goesOn_126 (by decide +kernel) ?_
                          intro v449 h450
                          refine q_isubE dX12_goesOn_128 (by intros; omega) ?_
                          intro v451 h452
                          refine q_iconst dX12_goesOn_129 (by decide) ?_
                          intro v453 h454
                          refine q_iaddE dX12_goesOn_130 (by intros; omega) ?_
                          intro v455 h456
                          refine q_i2l dX12_goesOn_131 ?_
                          intro y457
                          refine q_ladd dX12_goesOn_132 ?_
                          intro y458
                          refine q_putL dX12_goesOn_133 fl12_118 (kR15 hS387.1 ta0) (Or.inl rfl) ?_
                          intro L459
                          refine q_iincE dX12_goesOn_136 hl384 (by decide) (by decide) (by intros; omega) ?_
                          intro v460 h461
                          refine tr_aload_n dX12_goesOn_139 hl382 ?_
                          refine tr_dup dX12_goesOn_140 rfl ?_
                          refine q_getI dX12_goesOn_141 fl12_102 (kR15 hS387.1 ta0) c389 ?_
                          refine q_iconst dX12_goesOn_144 (by decide) ?_
                          intro v462 h463
                          refine q_iaddE dX12_goesOn_145 (by intros; omega) ?_
                          intro v464 h465
                          refine q_putI dX12_goesOn_146 fl12_102 (kR15 hS387.1 ta0) (Or.inl rfl) hS387 ta0 (by show (0 : Int) ≤ v464.toInt ∧ v464.toInt ≤ (900 : Int); omega) rfl (by decide +kernel) ?_
                          intro I466 hS467 e468 f469
                          have c470 : I466 a0 9 = v390 := (f469 _ _ (fun q => absurd q.2 (by decide))).trans c391
                          have r471 : v402 = m_by I466 R0 a0 v388 := r404.trans (m_by_kp d43 (f469 _ _ (fun q => absurd q.2 (by decide))) (fun i => f469 _ _ (fun q => by have z := ta42; rw [q.1, ta0] at z; exact absurd z (by decide))))
                          refine tr_goto 89 dX12_goesOn_149 (by decide) ?_
                          exact ih394 _ v460 I466 L459 v464 v390 hl382 hl383 rfl hS467 e468 c470 (by omega) (by omega) (by omega)
                  exact lp394 _ _ v367 I373 L366 v371 v45 hl14 rfl rfl hS374 e375 c378 (by omega) (by omega) (Nat.lt_succ_self _)
          · skip
            refine tr_aload_n dX12_goesOn_69 hl14 ?_
            refine q_iconst dX12_goesOn_70 (by decide) ?_
            intro v472 h473
            refine q_putI dX12_goesOn_71 fl12_99 (kR15 hS57.1 ta0) (Or.inl rfl) hS57 ta0 (by show (0 : Int) ≤ v472.toInt ∧ v472.toInt ≤ (5 : Int); omega) rfl (by decide +kernel) ?_
            intro I474 hS475 e476 f477
            have c478 : I474 a0 8 = v18 := (f477 _ _ (fun q => absurd q.2 (by decide))).trans c60
            have c479 : I474 a0 10 = v18 := (f477 _ _ (fun q => absurd q.2 (by decide))).trans c61
            have c480 : I474 a0 11 = v54 := (f477 _ _ (fun q => absurd q.2 (by decide))).trans e58
            have r481 : v31 = m_by I474 R0 a0 v18 := r63.trans (m_by_kp d43 (f477 _ _ (fun q => absurd q.2 (by decide))) (fun i => f477 _ _ (fun q => by have z := ta42; rw [q.1, ta0] at z; exact absurd z (by decide))))
            refine tr_goto 281 dX12_goesOn_74 (by decide) ?_
            exact tr_vret hZ dX12_goesOn_281 rfl (by decide) (by decide) ⟨rfl, rfl, rfl, rfl, rfl, hS475, (by (try rw [c2]); (try rw [e476]); (try omega)), (by (try rw [c2]); (try rw [e476]); (try omega)), (by (try rw [c478]); (try rw [c5]); (try rw [((hS475.cell ta0 (by decide +kernel)).trans c8)]); (try rw [c8]); (try omega)), (by unfold RdI; (try rw [c2]); (try rw [e476]); (try rw [c5]); (try rw [c478]); (try rw [c8]); (try rw [((hS475.cell ta0 (by decide +kernel)).trans c8)]); (try rw [c10]); (try rw [((hS475.cell ta0 (by decide +kernel)).trans c10)]); omega), trivial⟩
        · skip
          refine tr_aload_n dX12_goesOn_22 hl14 ?_
          refine tr_dup dX12_goesOn_23 rfl ?_
          refine q_getI dX12_goesOn_24 fl12_102 (kR15 hS17.1 ta0) c19 ?_
          refine q_iconst dX12_goesOn_27 (by decide) ?_
          intro v482 h483
          refine q_iaddE dX12_goesOn_28 (by intros; omega) ?_
          intro v484 h485
          refine q_putI dX12_goesOn_29 fl12_102 (kR15 hS17.1 ta0) (Or.inl rfl) hS17 ta0 (by show (0 : Int) ≤ v484.toInt ∧ v484.toInt ≤ (900 : Int); omega) rfl (by decide +kernel) ?_
          intro I486 hS487 e488 f489
          obtain ⟨a490, d491, ta490⟩ := rf15_5 hW0 ta0
          have r492 : v31 = m_by I486 R0 a0 v18 := r33.trans (m_by_kp d491 (f489 _ _ (fun q => absurd q.2 (by decide))) (fun i => f489 _ _ (fun q => by have z := ta490; rw [q.1, ta0] at z; exact absurd z (by decide))))
          refine tr_goto 9 dX12_goesOn_32 (by decide) ?_
          exact ih21 _ I486 L16 v484 hl14 hS487 e488 (by omega) (by omega)
    exact lp21 _ _ I0 L0 v4 rfl hS0 c5 (by omega) (Nat.lt_succ_self _)
  · skip
    exact tr_vret hZ dX12_goesOn_8 rfl (by decide) (by decide) ⟨rfl, rfl, rfl, rfl, rfl, hS0, (by (try rw [c2]); (try omega)), (by (try rw [c2]); (try omega)), (by (try rw [c5]); (try rw [c8]); (try omega)), (by unfold RdI; (try rw [c2]); (try rw [c5]); (try rw [c8]); (try rw [c10]); omega), trivial⟩
