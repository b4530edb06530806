def wi_X12_needsSign : List Nat := [968, 969, 970, 971, 972, 973, 974]
def wr_X12_needsSign : List Nat := []
set_option maxHeartbeats 4000000 in
theorem k_X12_needsSign {l : Launch} {T : Nat → Nat} {cn : Nat} {K N : Nat → Nat} {I0 : cz_I} {R0 : cz_R} {L0 : cz_L} {d : Int} (hW0 : Wf T cn K N I0 R0 d) {a0 : Nat} (ta0 : T a0 = 15) {x1 : Int32} : ConE l mX12_needsSign [.ref a0, .int x1] cn K N I0 R0 L0 (ca_v (fun cn' K' N' I' R' L' => cn = cn' ∧ K = K' ∧ N = N' ∧ R0 = R' ∧ St T cn K N d wi_X12_needsSign wr_X12_needsSign I0 R0 I' R0 ∧ RdI a0 I0 I' ∧ True)) := by
  refine ConE.of (by decide +kernel) rfl (Nat.le_of_ble_eq_true rfl) rfl (fun X hX hZ hE => ?_)
  subst hX
  have hS0 : St T cn K N d wi_X12_needsSign wr_X12_needsSign I0 R0 I0 R0 := St.rf0 hW0
  refine tr_aload_n dX12_needsSign_0 rfl ?_
  obtain ⟨v1, c2⟩ : ∃ v, I0 a0 9 = v := ⟨_, rfl⟩
  have b3 := iv15_9 hS0.1 ta0 c2
  refine q_getI dX12_needsSign_1 fl12_99 (kR15 hS0.1 ta0) c2 ?_
  refine q_iconst dX12_needsSign_4 (by decide) ?_
  intro v4 h5
  refine q_icmp_ne 16 dX12_needsSign_5 (by decide) (fun h6 => ?_) (fun h6 => ?_)
  · skip
    refine tr_aload_n dX12_needsSign_16 rfl ?_
    refine q_iconst dX12_needsSign_17 (by decide) ?_
    intro v7 h8
    obtain ⟨v9, c10⟩ : ∃ v, I0 a0 8 = v := ⟨_, rfl⟩
    have b11 := iv15_8 hS0.1 ta0 c10
    refine q_callVv hE (M' := mX12_flaw) (as := [_]) dX12_needsSign_18 lk12_145 inX12_flaw seX12_flaw myX12_flaw (by decide) ⟨by decide, by decide⟩ rfl (kR15 hS0.1 ta0) (Nat.le_of_ble_eq_true rfl) rfl rfl (by decide) (by decide) (k_X12_flaw hS0.1 ta0 (by exact om_95922198 h8)) ?_
    rintro cn' K' N' I12 R13 L14 ⟨rfl, rfl, rfl, rfl, rfl, g15, p17, p18, w19, -⟩
    have hS20 := hS0.tr g15 (by decide +kernel) (by decide +kernel)
    have c21 : I12 a0 8 = v9 := (g15.cell ta0 (by decide +kernel)).trans c10
    have w22 : RdI a0 I0 I12 := (EwI.rf a0 I0).rd w19
    obtain ⟨v23, c24⟩ : ∃ v, I12 a0 9 = v := ⟨_, rfl⟩
    have b25 := iv15_9 hS20.1 ta0 c24
    rw [c24] at p17
    rw [c21] at p18
    rw [c10] at p18
    refine tr_aload_n dX12_needsSign_21 rfl ?_
    obtain ⟨v26, c27⟩ : ∃ v, I12 a0 13 = v := ⟨_, rfl⟩
    refine q_callVv hE (M' := mX12_goesOn) (as := []) dX12_needsSign_22 lk12_142 inX12_goesOn seX12_goesOn myX12_goesOn (by decide) ⟨by decide, by decide⟩ rfl (kR15 hS20.1 ta0) (Nat.le_of_ble_eq_true rfl) rfl rfl (by decide) (by decide) (k_X12_goesOn hS20.1 ta0) ?_
    rintro cn' K' N' I28 R29 L30 ⟨rfl, rfl, rfl, rfl, g31, p33, p34, p35, w36, -⟩
    have hS37 := hS20.tr g31 (by decide +kernel) (by decide +kernel)
    have c38 : I28 a0 13 = v26 := (g31.cell ta0 (by decide +kernel)).trans c27
    have w39 : RdI a0 I0 I28 := w22.rd w36
    obtain ⟨v40, c41⟩ : ∃ v, I28 a0 9 = v := ⟨_, rfl⟩
    have b42 := iv15_9 hS37.1 ta0 c41
    rw [c24] at p33
    rw [c41] at p33
    rw [c24] at p34
    rw [c41] at p34
    obtain ⟨v43, c44⟩ : ∃ v, I28 a0 8 = v := ⟨_, rfl⟩
    have b45 := iv15_8 hS37.1 ta0 c44
    rw [c44] at p35
    rw [c21] at p35
    rw [c38] at p35
    rw [c27] at p35
    exact tr_vret hZ dX12_needsSign_25 rfl (by decide) (by decide) ⟨rfl, rfl, rfl, rfl, rfl, hS37, w39, trivial⟩
  · skip
    refine tr_aload_n dX12_needsSign_8 rfl ?_
    obtain ⟨v46, c47⟩ : ∃ v, I0 a0 11 = v := ⟨_, rfl⟩
    refine q_getI dX12_needsSign_9 fl12_111 (kR15 hS0.1 ta0) c47 ?_
    refine tr_iload_n dX12_needsSign_12 rfl ?_
    refine q_icmp_eq 21 dX12_needsSign_13 (by decide) (fun h48 => ?_) (fun h48 => ?_)
    · skip
      refine tr_aload_n dX12_needsSign_21 rfl ?_
      obtain ⟨v49, c50⟩ : ∃ v, I0 a0 8 = v := ⟨_, rfl⟩
      have b51 := iv15_8 hS0.1 ta0 c50
      obtain ⟨v52, c53⟩ : ∃ v, I0 a0 13 = v := ⟨_, rfl⟩
      refine q_callVv hE (M' := mX12_goesOn) (as := []) dX12_needsSign_22 lk12_142 inX12_goesOn seX12_goesOn myX12_goesOn (by decide) ⟨by decide, by decide⟩ rfl (kR15 hS0.1 ta0) (Nat.le_of_ble_eq_true rfl) rfl rfl (by decide) (by decide) (k_X12_goesOn hS0.1 ta0) ?_
      rintro cn' K' N' I54 R55 L56 ⟨rfl, rfl, rfl, rfl, g57, p59, p60, p61, w62, -⟩
      have hS63 := hS0.tr g57 (by decide +kernel) (by decide +kernel)
      have c64 : I54 a0 13 = v52 := (g57.cell ta0 (by decide +kernel)).trans c53
      have w65 : RdI a0 I0 I54 := (EwI.rf a0 I0).rd w62
      obtain ⟨v66, c67⟩ : ∃ v, I54 a0 9 = v := ⟨_, rfl⟩
      have b68 := iv15_9 hS63.1 ta0 c67
      rw [c2] at p59
      rw [c67] at p59
      rw [c2] at p60
      rw [c67] at p60
      obtain ⟨v69, c70⟩ : ∃ v, I54 a0 8 = v := ⟨_, rfl⟩
      have b71 := iv15_8 hS63.1 ta0 c70
      rw [c70] at p61
      rw [c50] at p61
      rw [c64] at p61
      rw [c53] at p61
      exact tr_vret hZ dX12_needsSign_25 rfl (by decide) (by decide) ⟨rfl, rfl, rfl, rfl, rfl, hS63, w65, trivial⟩
    · skip
      refine tr_aload_n dX12_needsSign_16 rfl ?_
      refine q_iconst dX12_needsSign_17 (by decide) ?_
      intro v72 h73
      obtain ⟨v74, c75⟩ : ∃ v, I0 a0 8 = v := ⟨_, rfl⟩
      have b76 := iv15_8 hS0.1 ta0 c75
      refine q_callVv hE (M' := mX12_flaw) (as := [_]) dX12_needsSign_18 lk12_145 inX12_flaw seX12_flaw myX12_flaw (by decide) ⟨by decide, by decide⟩ rfl (kR15 hS0.1 ta0) (Nat.le_of_ble_eq_true rfl) rfl rfl (by decide) (by decide) (k_X12_flaw hS0.1 ta0 (by exact om_95922198 h73)) ?_
      rintro cn' K' N' I77 R78 L79 ⟨rfl, rfl, rfl, rfl, rfl, g80, p82, p83, w84, -⟩
      have hS85 := hS0.tr g80 (by decide +kernel) (by decide +kernel)
      have c86 : I77 a0 11 = v46 := (g80.cell ta0 (by decide +kernel)).trans c47
      have c87 : I77 a0 8 = v74 := (g80.cell ta0 (by decide +kernel)).trans c75
      have w88 : RdI a0 I0 I77 := (EwI.rf a0 I0).rd w84
      obtain ⟨v89, c90⟩ : ∃ v, I77 a0 9 = v := ⟨_, rfl⟩
      have b91 := iv15_9 hS85.1 ta0 c90
      rw [c90] at p82
      rw [c87] at p83
      rw [c75] at p83
      refine tr_aload_n dX12_needsSign_21 rfl ?_
      obtain ⟨v92, c93⟩ : ∃ v, I77 a0 13 = v := ⟨_, rfl⟩
      refine q_callVv hE (M' := mX12_goesOn) (as := []) dX12_needsSign_22 lk12_142 inX12_goesOn seX12_goesOn myX12_goesOn (by decide) ⟨by decide, by decide⟩ rfl (kR15 hS85.1 ta0) (Nat.le_of_ble_eq_true rfl) rfl rfl (by decide) (by decide) (k_X12_goesOn hS85.1 ta0) ?_
      rintro cn' K' N' I94 R95 L96 ⟨rfl, rfl, rfl, rfl, g97, p99, p100, p101, w102, -⟩
      have hS103 := hS85.tr g97 (by decide +kernel) (by decide +kernel)
      have c104 : I94 a0 13 = v92 := (g97.cell ta0 (by decide +kernel)).trans c93
      have w105 : RdI a0 I0 I94 := w88.rd w102
      obtain ⟨v106, c107⟩ : ∃ v, I94 a0 9 = v := ⟨_, rfl⟩
      have b108 := iv15_9 hS103.1 ta0 c107
      rw [c90] at p99
      rw [c107] at p99
      rw [c90] at p100
      rw [c107] at p100
      obtain ⟨v109, c110⟩ : ∃ v, I94 a0 8 = v := ⟨_, rfl⟩
      have b111 := iv15_8 hS103.1 ta0 c110
      rw [c110] at p101
      rw [c87] at p101
      rw [c104] at p101
      rw [c93] at p101
      exact tr_vret hZ dX12_needsSign_25 rfl (by decide) (by decide) ⟨rfl, rfl, rfl, rfl, rfl, hS103, w105, trivial⟩
