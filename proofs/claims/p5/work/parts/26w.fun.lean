def wik_X12_readLine : List Nat := [896, 897, 898, 899, 900, 901, 902, 903, 904, 905, 968, 969, 970, 971, 972, 973, 974, 3455, 3519, 3583, 3647, 3711, 3775, 3839, 3903, 3967, 4031, 4095, 4159, 4223, 4287, 4351, 4415, 4479, 4543, 4607, 4671, 4799, 4863]
def wrk_X12_readLine : List Nat := []
def wlk_X12_readLine : List Nat := [975, 4735]
set_option maxHeartbeats 4000000 in
theorem fk_X12_readLine {l : Launch} {T : Nat → Nat} {cn : Nat} {K N : Nat → Nat} {I0 : cz_I} {R0 : cz_R} {L0 : cz_L} (hW0 : Wf T cn K N I0 R0 0) (gB : cz_B) (gs : Int) (gQ : Nat → Int) {a0 : Nat} (ta0 : T a0 = 15) (hT : ∀ t, R0 a0 5 = some t → Tx I0 t gB) (hN : ∀ b, R0 a0 4 = some b → NmM I0 R0 L0 b gQ) (pre0 : (I0 a0 9).toInt = (tkM gB gs)) (pre1 : (I0 a0 9).toInt ≤ 4) (pre2 : (I0 a0 10).toInt = (tkS gB gs)) (pre3 : (I0 a0 11).toInt = (tkG gB gs)) (pre4 : (AtW ((tkK gB gs)) ((L0 a0 15).toInt) ((tkW gB gs)))) (pre5 : (AtV ((tkK gB gs)) ((I0 a0 12).toInt) ((tkV gB gs)))) (pre6 : (AtN ((tkK gB gs)) ((I0 a0 8).toInt) ((tkN gB gs)))) (pre7 : (I0 a0 7).toInt = (gB.2)) (pre8 : ∀ b1, R0 a0 4 = some b1 → (I0 b1 0).toInt = (gQ 0)) (pre9 : ∀ b1, R0 a0 4 = some b1 → (I0 b1 1).toInt = (gQ 1)) (pre10 : ∀ b1, R0 a0 4 = some b1 → (I0 b1 2).toInt = (gQ 2)) (pre11 : ∀ b1, R0 a0 4 = some b1 → (I0 b1 3).toInt = (gQ 3)) (pre12 : ∀ b1, R0 a0 4 = some b1 → (I0 b1 4).toInt = (gQ 4)) (pre13 : ∀ b1, R0 a0 4 = some b1 → (I0 b1 5).toInt = (gQ 5)) (pre14 : ∀ b1, R0 a0 4 = some b1 → (I0 b1 6).toInt = (gQ 6)) (pre15 : ∀ b1, R0 a0 4 = some b1 → (I0 b1 9).toInt = (gQ 8)) (pre16 : (Q7M ((gQ 0)) ((gQ 7)))) (nn4 : ∃ b, R0 a0 4 = some b) : ConE l mX12_readLine [.ref a0] cn K N I0 R0 L0 (ca_v (fun cn' K' N' I' R' L' => cn = cn' ∧ K = K' ∧ N = N' ∧ R0 = R' ∧ St T cn K N 0 wik_X12_readLine wrk_X12_readLine I0 R0 I' R0 ∧ ((((lnF gB gQ gs) = 0) ∧ (∀ b1, R0 a0 4 = some b1 → (I' b1 0).toInt = (lnQ gB gQ gs 0)) ∧ (∀ b1, R0 a0 4 = some b1 → (I' b1 1).toInt = (lnQ gB gQ gs 1)) ∧ (∀ b1, R0 a0 4 = some b1 → (I' b1 2).toInt = (lnQ gB gQ gs 2)) ∧ (∀ b1, R0 a0 4 = some b1 → (I' b1 3).toInt = (lnQ gB gQ gs 3)) ∧ (∀ b1, R0 a0 4 = some b1 → (I' b1 4).toInt = (lnQ gB gQ gs 4)) ∧ (∀ b1, R0 a0 4 = some b1 → (I' b1 5).toInt = (lnQ gB gQ gs 5)) ∧ (∀ b1, R0 a0 4 = some b1 → (I' b1 6).toInt = (lnQ gB gQ gs 6)) ∧ (∀ b1, R0 a0 4 = some b1 → (I' b1 9).toInt = (lnQ gB gQ gs 8)) ∧ ((I' a0 13).toInt = (I0 a0 13).toInt) ∧ ((I' a0 9).toInt = (tkM gB (lnS gB gQ gs))) ∧ ((I' a0 9).toInt ≤ 4) ∧ ((I' a0 10).toInt = (tkS gB (lnS gB gQ gs))) ∧ ((I' a0 11).toInt = (tkG gB (lnS gB gQ gs))) ∧ ((AtW ((tkK gB (lnS gB gQ gs))) ((L' a0 15).toInt) ((tkW gB (lnS gB gQ gs))))) ∧ ((AtV ((tkK gB (lnS gB gQ gs))) ((I' a0 12).toInt) ((tkV gB (lnS gB gQ gs))))) ∧ ((AtN ((tkK gB (lnS gB gQ gs))) ((I' a0 8).toInt) ((tkN gB (lnS gB gQ gs))))) ∧ LgS T wlk_X12_readLine L0 L' ∧ (∀ b, R0 a0 4 = some b → NmM I' R0 L' b (lnQ gB gQ gs)) ∧ True) ∨ (((lnF gB gQ gs) ≠ 0) ∧ ((I' a0 9).toInt = 5) ∧ ((I' a0 13).toInt = (lnF gB gQ gs)) ∧ ((I' a0 14).toInt = (lnP gB gQ gs)) ∧ True)) ∧ True)) := by
  refine ConE.of (by decide +kernel) rfl (Nat.le_of_ble_eq_true rfl) rfl (fun X hX hZ hE => ?_)
  subst hX
  have hS0 : St T cn K N 0 wik_X12_readLine wrk_X12_readLine I0 R0 I0 R0 := St.rf0 hW0
  have hL0 : LgS T wlk_X12_readLine L0 L0 := LgS.rf0
  obtain ⟨a1, d2⟩ := nn4
  have ta1 : T a1 = 14 := hW0.rsN ta0 rfl d2
  obtain ⟨v3, c4⟩ : ∃ v, I0 a0 9 = v := ⟨_, rfl⟩
  have b5 := iv15_9 hS0.1 ta0 c4
  have p6 := pre0
  rw [c4] at p6
  have p7 := pre1
  rw [c4] at p7
  obtain ⟨v8, c9⟩ : ∃ v, I0 a0 10 = v := ⟨_, rfl⟩
  have b10 := iv15_10 hS0.1 ta0 c9
  have p11 := pre2
  rw [c9] at p11
  obtain ⟨v12, c13⟩ : ∃ v, I0 a0 11 = v := ⟨_, rfl⟩
  have p14 := pre3
  rw [c13] at p14
  obtain ⟨y15, c16⟩ : ∃ v, L0 a0 15 = v := ⟨_, rfl⟩
  have p17 := pre4
  rw [c16] at p17
  obtain ⟨v18, c19⟩ : ∃ v, I0 a0 12 = v := ⟨_, rfl⟩
  have p20 := pre5
  rw [c19] at p20
  obtain ⟨v21, c22⟩ : ∃ v, I0 a0 8 = v := ⟨_, rfl⟩
  have b23 := iv15_8 hS0.1 ta0 c22
  have p24 := pre6
  rw [c22] at p24
  obtain ⟨v25, c26⟩ : ∃ v, I0 a0 7 = v := ⟨_, rfl⟩
  have b27 := iv15_7 hW0 ta0 c26
  have p28 := pre7
  rw [c26] at p28
  obtain ⟨v29, c30⟩ : ∃ v, I0 a1 0 = v := ⟨_, rfl⟩
  have b31 := iv14_0 hS0.1 ta1 c30
  have p32 := pre8 _ d2
  rw [c30] at p32
  obtain ⟨v33, c34⟩ : ∃ v, I0 a1 1 = v := ⟨_, rfl⟩
  have b35 := iv14_1 hS0.1 ta1 c34
  have p36 := pre9 _ d2
  rw [c34] at p36
  obtain ⟨v37, c38⟩ : ∃ v, I0 a1 2 = v := ⟨_, rfl⟩
  have b39 := iv14_2 hS0.1 ta1 c38
  have p40 := pre10 _ d2
  rw [c38] at p40
  obtain ⟨v41, c42⟩ : ∃ v, I0 a1 3 = v := ⟨_, rfl⟩
  have b43 := iv14_3 hS0.1 ta1 c42
  have p44 := pre11 _ d2
  rw [c42] at p44
  obtain ⟨v45, c46⟩ : ∃ v, I0 a1 4 = v := ⟨_, rfl⟩
  have b47 := iv14_4 hS0.1 ta1 c46
  have p48 := pre12 _ d2
  rw [c46] at p48
  obtain ⟨v49, c50⟩ : ∃ v, I0 a1 5 = v := ⟨_, rfl⟩
  have b51 := iv14_5 hS0.1 ta1 c50
  have p52 := pre13 _ d2
  rw [c50] at p52
  obtain ⟨v53, c54⟩ : ∃ v, I0 a1 6 = v := ⟨_, rfl⟩
  have b55 := iv14_6 hS0.1 ta1 c54
  have p56 := pre14 _ d2
  rw [c54] at p56
  obtain ⟨v57, c58⟩ : ∃ v, I0 a1 9 = v := ⟨_, rfl⟩
  have b59 := iv14_9 hS0.1 ta1 c58
  have p60 := pre15 _ d2
  rw [c58] at p60
  have p61 := pre16
  obtain ⟨v62, c63⟩ : ∃ v, I0 a0 13 = v := ⟨_, rfl⟩
  have hM0 := hN _ d2
  refine tr_aload_n dX12_readLine_0 rfl ?_
  refine tr_ldcS dX12_readLine_1 ld12_164 ?_
  refine q_callVi hE (M' := mX12_isWord) (as := [_]) dX12_readLine_3 lk12_138 inX12_isWord seX12_isWord myX12_isWord (by decide) ⟨by decide, by decide⟩ rfl (kR15 hS0.1 ta0) (Nat.le_of_ble_eq_true rfl) rfl rfl (by decide) (by decide) (fk_X12_isWord hS0.1 (gB) (gs) ta0 (by decide) (by (try rw [c4]); first | done | omega) (by (try rw [c16]); first | done | assumption)) ?_
  rintro v69 cn' K' N' I64 R65 L66 ⟨rfl, rfl, rfl, rfl, rfl, rfl, h70, dj71, -⟩
  (try rw [pk_1] at dj71)
  rcases dj71 with ⟨p72, p73, p74, -⟩ | ⟨p75, p76, -⟩
  · skip
    have sr77 : srt gB gs = 10 := srt_10 (by omega) (by omega)
    refine q_if_eq 16 dX12_readLine_6 (by decide) (fun h78 => ?_) (fun h78 => ?_)
    · skip
      exfalso; omega
    · skip
      refine tr_aload_n dX12_readLine_9 rfl ?_
      refine q_callVv hE (M' := mX12_readAlp) (as := []) dX12_readLine_10 lk12_227 inX12_readAlp seX12_readAlp myX12_readAlp (by decide) ⟨by decide, by decide⟩ rfl (kR15 hS0.1 ta0) (Nat.le_of_ble_eq_true rfl) rfl rfl (by decide) (by decide) (fk_X12_readAlp hS0.1 (gB) (gs) (gQ) ta0 (TxA.kp hT hS0 ta0 rfl rfl rfl (by decide +kernel) (by decide +kernel)) (fun b hb => (Option.some.inj (d2.symm.trans hb)) ▸ hM0) (by (try rw [c4]); first | done | omega) (by (try rw [c4]); first | done | omega) (by (try rw [c9]); first | done | omega) (by (try rw [c13]); first | done | omega) (by (try rw [c16]); first | done | assumption) (by (try rw [c19]); first | done | assumption) (by (try rw [c22]); first | done | assumption) (by (try rw [c26]); first | done | omega) (fun q0 z0 => by obtain rfl := Option.some.inj ((d2).symm.trans z0); (try rw [c30]); first | done | omega) (fun q0 z0 => by obtain rfl := Option.some.inj ((d2).symm.trans z0); (try rw [c34]); first | done | omega) (fun q0 z0 => by obtain rfl := Option.some.inj ((d2).symm.trans z0); (try rw [c38]); first | done | omega) (fun q0 z0 => by obtain rfl := Option.some.inj ((d2).symm.trans z0); (try rw [c42]); first | done | omega) (fun q0 z0 => by obtain rfl := Option.some.inj ((d2).symm.trans z0); (try rw [c46]); first | done | omega) (fun q0 z0 => by obtain rfl := Option.some.inj ((d2).symm.trans z0); (try rw [c50]); first | done | omega) (fun q0 z0 => by obtain rfl := Option.some.inj ((d2).symm.trans z0); (try rw [c54]); first | done | omega) (fun q0 z0 => by obtain rfl := Option.some.inj ((d2).symm.trans z0); (try rw [c58]); first | done | omega) (by first | done | assumption) (by first | done | omega) (by first | done | omega) ⟨_, d2⟩) ?_
      rintro cn' K' N' I79 R80 L81 ⟨rfl, rfl, rfl, rfl, g82, dj85, -⟩
      have hS86 := hS0.tr g82 (by decide +kernel) (by decide +kernel)
      have c87 : I79 a1 2 = v37 := (g82.cell ta1 (by decide +kernel)).trans c38
      have c88 : I79 a1 3 = v41 := (g82.cell ta1 (by decide +kernel)).trans c42
      have c89 : I79 a1 4 = v45 := (g82.cell ta1 (by decide +kernel)).trans c46
      have c90 : I79 a1 5 = v49 := (g82.cell ta1 (by decide +kernel)).trans c50
      have c91 : I79 a1 6 = v53 := (g82.cell ta1 (by decide +kernel)).trans c54
      have c92 : I79 a1 9 = v57 := (g82.cell ta1 (by decide +kernel)).trans c58
      rcases dj85 with ⟨p93, p94, p95, p96, p97, p98, p99, p100, p101, p102, p103, p104, p105, p106, p107, p108, p109, gl110, rp111, -⟩ | ⟨p112, p113, p114, p115, -⟩
      · skip
        have hL116 := hL0.tr gl110 (by decide +kernel)
        obtain ⟨v117, c118⟩ : ∃ v, I79 a1 0 = v := ⟨_, rfl⟩
        have b119 := iv14_0 hS86.1 ta1 c118
        have p120 := p94 _ d2
        clear p94
        rw [c118] at p120
        obtain ⟨v121, c122⟩ : ∃ v, I79 a1 1 = v := ⟨_, rfl⟩
        have b123 := iv14_1 hS86.1 ta1 c122
        have p124 := p95 _ d2
        clear p95
        rw [c122] at p124
        have p125 := p96 _ d2
        clear p96
        rw [c87] at p125
        have p126 := p97 _ d2
        clear p97
        rw [c88] at p126
        have p127 := p98 _ d2
        clear p98
        rw [c89] at p127
        have p128 := p99 _ d2
        clear p99
        rw [c90] at p128
        have p129 := p100 _ d2
        clear p100
        rw [c91] at p129
        have p130 := p101 _ d2
        clear p101
        rw [c92] at p130
        obtain ⟨v131, c132⟩ : ∃ v, I79 a0 13 = v := ⟨_, rfl⟩
        rw [c132] at p102
        rw [c63] at p102
        obtain ⟨v133, c134⟩ : ∃ v, I79 a0 9 = v := ⟨_, rfl⟩
        have b135 := iv15_9 hS86.1 ta0 c134
        rw [c134] at p103
        rw [c134] at p104
        obtain ⟨v136, c137⟩ : ∃ v, I79 a0 10 = v := ⟨_, rfl⟩
        have b138 := iv15_10 hS86.1 ta0 c137
        rw [c137] at p105
        obtain ⟨v139, c140⟩ : ∃ v, I79 a0 11 = v := ⟨_, rfl⟩
        rw [c140] at p106
        obtain ⟨y141, c142⟩ : ∃ v, L81 a0 15 = v := ⟨_, rfl⟩
        rw [c142] at p107
        obtain ⟨v143, c144⟩ : ∃ v, I79 a0 12 = v := ⟨_, rfl⟩
        rw [c144] at p108
        obtain ⟨v145, c146⟩ : ∃ v, I79 a0 8 = v := ⟨_, rfl⟩
        have b147 := iv15_8 hS86.1 ta0 c146
        rw [c146] at p109
        refine tr_goto 186 dX12_readLine_13 (by decide) ?_
        obtain ⟨v148, c149⟩ : ∃ v, I79 a0 14 = v := ⟨_, rfl⟩
        exact tr_vret hZ dX12_readLine_186 rfl (by decide) (by decide) ⟨rfl, rfl, rfl, rfl, rfl, hS86, (Or.inl ⟨(by first | done | omega), (fun q0 z0 => by obtain rfl := Option.some.inj ((d2).symm.trans z0); (try rw [c118]); first | done | omega), (fun q0 z0 => by obtain rfl := Option.some.inj ((d2).symm.trans z0); (try rw [c122]); first | done | omega), (fun q0 z0 => by obtain rfl := Option.some.inj ((d2).symm.trans z0); (try rw [c87]); first | done | omega), (fun q0 z0 => by obtain rfl := Option.some.inj ((d2).symm.trans z0); (try rw [c88]); first | done | omega), (fun q0 z0 => by obtain rfl := Option.some.inj ((d2).symm.trans z0); (try rw [c89]); first | done | omega), (fun q0 z0 => by obtain rfl := Option.some.inj ((d2).symm.trans z0); (try rw [c90]); first | done | omega), (fun q0 z0 => by obtain rfl := Option.some.inj ((d2).symm.trans z0); (try rw [c91]); first | done | omega), (fun q0 z0 => by obtain rfl := Option.some.inj ((d2).symm.trans z0); (try rw [c92]); first | done | omega), (by (try rw [c132]); (try rw [c63]); first | done | omega), (by (try rw [c134]); first | done | omega), (by (try rw [c134]); first | done | omega), (by (try rw [c137]); first | done | omega), (by (try rw [c140]); first | done | omega), (by (try rw [c142]); first | done | assumption), (by (try rw [c144]); first | done | assumption), (by (try rw [c146]); first | done | assumption), hL116, (fun b hb => (Option.some.inj (d2.symm.trans hb)) ▸ (rp111 _ d2)), trivial⟩), trivial⟩
      · skip
        obtain ⟨v150, c151⟩ : ∃ v, I79 a0 9 = v := ⟨_, rfl⟩
        have b152 := iv15_9 hS86.1 ta0 c151
        rw [c151] at p113
        obtain ⟨v153, c154⟩ : ∃ v, I79 a0 13 = v := ⟨_, rfl⟩
        rw [c154] at p114
        obtain ⟨v155, c156⟩ : ∃ v, I79 a0 14 = v := ⟨_, rfl⟩
        rw [c156] at p115
        refine tr_goto 186 dX12_readLine_13 (by decide) ?_
        obtain ⟨v157, c158⟩ : ∃ v, I79 a1 0 = v := ⟨_, rfl⟩
        have b159 := iv14_0 hS86.1 ta1 c158
        obtain ⟨v160, c161⟩ : ∃ v, I79 a1 1 = v := ⟨_, rfl⟩
        have b162 := iv14_1 hS86.1 ta1 c161
        obtain ⟨v163, c164⟩ : ∃ v, I79 a0 10 = v := ⟨_, rfl⟩
        have b165 := iv15_10 hS86.1 ta0 c164
        obtain ⟨v166, c167⟩ : ∃ v, I79 a0 11 = v := ⟨_, rfl⟩
        obtain ⟨y168, c169⟩ : ∃ v, L81 a0 15 = v := ⟨_, rfl⟩
        obtain ⟨v170, c171⟩ : ∃ v, I79 a0 12 = v := ⟨_, rfl⟩
        obtain ⟨v172, c173⟩ : ∃ v, I79 a0 8 = v := ⟨_, rfl⟩
        have b174 := iv15_8 hS86.1 ta0 c173
        exact tr_vret hZ dX12_readLine_186 rfl (by decide) (by decide) ⟨rfl, rfl, rfl, rfl, rfl, hS86, (Or.inr (⟨(by first | done | omega), (by (try rw [c151]); first | done | omega), (by (try rw [c154]); first | done | omega), (by (try rw [c156]); first | done | omega), trivial⟩)), trivial⟩
  · skip
    refine q_if_eq 16 dX12_readLine_6 (by decide) (fun h175 => ?_) (fun h175 => ?_)
    · skip
      refine tr_aload_n dX12_readLine_16 rfl ?_
      refine tr_ldcS dX12_readLine_17 ld12_166 ?_
      refine q_callVi hE (M' := mX12_isWord) (as := [_]) dX12_readLine_19 lk12_138 inX12_isWord seX12_isWord myX12_isWord (by decide) ⟨by decide, by decide⟩ rfl (kR15 hS0.1 ta0) (Nat.le_of_ble_eq_true rfl) rfl rfl (by decide) (by decide) (fk_X12_isWord hS0.1 (gB) (gs) ta0 (by decide) (by (try rw [c4]); first | done | omega) (by (try rw [c16]); first | done | assumption)) ?_
      rintro v181 cn' K' N' I176 R177 L178 ⟨rfl, rfl, rfl, rfl, rfl, rfl, h182, dj183, -⟩
      (try rw [pk_7] at dj183)
      rcases dj183 with ⟨p184, p185, p186, -⟩ | ⟨p187, p188, -⟩
      · skip
        have sr189 : srt gB gs = 0 := srt_0 (by omega) (by omega)
        refine q_if_eq 33 dX12_readLine_22 (by decide) (fun h190 => ?_) (fun h190 => ?_)
        · skip
          exfalso; omega
        · skip
          refine tr_aload_n dX12_readLine_25 rfl ?_
          refine q_iconst dX12_readLine_26 (by decide) ?_
          intro v191 h192
          refine q_callVv hE (M' := mX12_readEvent) (as := [_]) dX12_readLine_27 lk12_230 inX12_readEvent seX12_readEvent myX12_readEvent (by decide) ⟨by decide, by decide⟩ rfl (kR15 hS0.1 ta0) (Nat.le_of_ble_eq_true rfl) rfl rfl (by decide) (by decide) (fk_X12_readEvent hS0.1 (gB) (gs) (gQ) ta0 (by omega) (TxA.kp hT hS0 ta0 rfl rfl rfl (by decide +kernel) (by decide +kernel)) (fun b hb => (Option.some.inj (d2.symm.trans hb)) ▸ hM0) (by (try rw [c4]); first | done | omega) (by (try rw [c4]); first | done | omega) (by (try rw [c9]); first | done | omega) (by (try rw [c13]); first | done | omega) (by (try rw [c16]); first | done | assumption) (by (try rw [c19]); first | done | assumption) (by (try rw [c22]); first | done | assumption) (by (try rw [c26]); first | done | omega) (fun q0 z0 => by obtain rfl := Option.some.inj ((d2).symm.trans z0); (try rw [c30]); first | done | omega) (fun q0 z0 => by obtain rfl := Option.some.inj ((d2).symm.trans z0); (try rw [c34]); first | done | omega) (fun q0 z0 => by obtain rfl := Option.some.inj ((d2).symm.trans z0); (try rw [c38]); first | done | omega) (fun q0 z0 => by obtain rfl := Option.some.inj ((d2).symm.trans z0); (try rw [c42]); first | done | omega) (fun q0 z0 => by obtain rfl := Option.some.inj ((d2).symm.trans z0); (try rw [c46]); first | done | omega) (fun q0 z0 => by obtain rfl := Option.some.inj ((d2).symm.trans z0); (try rw [c50]); first | done | omega) (fun q0 z0 => by obtain rfl := Option.some.inj ((d2).symm.trans z0); (try rw [c54]); first | done | omega) (fun q0 z0 => by obtain rfl := Option.some.inj ((d2).symm.trans z0); (try rw [c58]); first | done | omega) (by first | done | assumption) (by first | done | omega) (by first | done | omega) ⟨_, d2⟩) ?_
          rintro cn' K' N' I193 R194 L195 ⟨rfl, rfl, rfl, rfl, g196, dj199, -⟩
          have hS200 := hS0.tr g196 (by decide +kernel) (by decide +kernel)
          have c201 : I193 a1 0 = v29 := (g196.cell ta1 (by decide +kernel)).trans c30
          have c202 : I193 a1 1 = v33 := (g196.cell ta1 (by decide +kernel)).trans c34
          have c203 : I193 a1 3 = v41 := (g196.cell ta1 (by decide +kernel)).trans c42
          have c204 : I193 a1 4 = v45 := (g196.cell ta1 (by decide +kernel)).trans c46
          have c205 : I193 a1 5 = v49 := (g196.cell ta1 (by decide +kernel)).trans c50
          have c206 : I193 a1 6 = v53 := (g196.cell ta1 (by decide +kernel)).trans c54
          have c207 : I193 a1 9 = v57 := (g196.cell ta1 (by decide +kernel)).trans c58
          rcases dj199 with ⟨p208, p209, p210, p211, p212, p213, p214, p215, p216, p217, p218, p219, p220, p221, p222, p223, p224, gl225, rp226, -⟩ | ⟨p227, p228, p229, p230, -⟩
          · skip
            have hL231 := hL0.tr gl225 (by decide +kernel)
            have p232 := p209 _ d2
            clear p209
            rw [c201] at p232
            have p233 := p210 _ d2
            clear p210
            rw [c202] at p233
            obtain ⟨v234, c235⟩ : ∃ v, I193 a1 2 = v := ⟨_, rfl⟩
            have b236 := iv14_2 hS200.1 ta1 c235
            have p237 := p211 _ d2
            clear p211
            rw [c235] at p237
            have p238 := p212 _ d2
            clear p212
            rw [c203] at p238
            have p239 := p213 _ d2
            clear p213
            rw [c204] at p239
            have p240 := p214 _ d2
            clear p214
            rw [c205] at p240
            have p241 := p215 _ d2
            clear p215
            rw [c206] at p241
            have p242 := p216 _ d2
            clear p216
            rw [c207] at p242
            obtain ⟨v243, c244⟩ : ∃ v, I193 a0 13 = v := ⟨_, rfl⟩
            rw [c244] at p217
            rw [c63] at p217
            obtain ⟨v245, c246⟩ : ∃ v, I193 a0 9 = v := ⟨_, rfl⟩
            have b247 := iv15_9 hS200.1 ta0 c246
            rw [c246] at p218
            rw [c246] at p219
            obtain ⟨v248, c249⟩ : ∃ v, I193 a0 10 = v := ⟨_, rfl⟩
            have b250 := iv15_10 hS200.1 ta0 c249
            rw [c249] at p220
            obtain ⟨v251, c252⟩ : ∃ v, I193 a0 11 = v := ⟨_, rfl⟩
            rw [c252] at p221
            obtain ⟨y253, c254⟩ : ∃ v, L195 a0 15 = v := ⟨_, rfl⟩
            rw [c254] at p222
            obtain ⟨v255, c256⟩ : ∃ v, I193 a0 12 = v := ⟨_, rfl⟩
            rw [c256] at p223
            obtain ⟨v257, c258⟩ : ∃ v, I193 a0 8 = v := ⟨_, rfl⟩
            have b259 := iv15_8 hS200.1 ta0 c258
            rw [c258] at p224
            refine tr_goto 186 dX12_readLine_30 (by decide) ?_
            obtain ⟨v260, c261⟩ : ∃ v, I193 a0 14 = v := ⟨_, rfl⟩
            exact tr_vret hZ dX12_readLine_186 rfl (by decide) (by decide) ⟨rfl, rfl, rfl, rfl, rfl, hS200, (Or.inl ⟨(by first | done | omega), (fun q0 z0 => by obtain rfl := Option.some.inj ((d2).symm.trans z0); (try rw [c201]); first | done | omega), (fun q0 z0 => by obtain rfl := Option.some.inj ((d2).symm.trans z0); (try rw [c202]); first | done | omega), (fun q0 z0 => by obtain rfl := Option.some.inj ((d2).symm.trans z0); (try rw [c235]); first | done | omega), (fun q0 z0 => by obtain rfl := Option.some.inj ((d2).symm.trans z0); (try rw [c203]); first | done | omega), (fun q0 z0 => by obtain rfl := Option.some.inj ((d2).symm.trans z0); (try rw [c204]); first | done | omega), (fun q0 z0 => by obtain rfl := Option.some.inj ((d2).symm.trans z0); (try rw [c205]); first | done | omega), (fun q0 z0 => by obtain rfl := Option.some.inj ((d2).symm.trans z0); (try rw [c206]); first | done | omega), (fun q0 z0 => by obtain rfl := Option.some.inj ((d2).symm.trans z0); (try rw [c207]); first | done | omega), (by (try rw [c244]); (try rw [c63]); first | done | omega), (by (try rw [c246]); first | done | omega), (by (try rw [c246]); first | done | omega), (by (try rw [c249]); first | done | omega), (by (try rw [c252]); first | done | omega), (by (try rw [c254]); first | done | assumption), (by (try rw [c256]); first | done | assumption), (by (try rw [c258]); first | done | assumption), hL231, (fun b hb => (Option.some.inj (d2.symm.trans hb)) ▸ (rp226 _ d2)), trivial⟩), trivial⟩
          · skip
            obtain ⟨v262, c263⟩ : ∃ v, I193 a0 9 = v := ⟨_, rfl⟩
            have b264 := iv15_9 hS200.1 ta0 c263
            rw [c263] at p228
            obtain ⟨v265, c266⟩ : ∃ v, I193 a0 13 = v := ⟨_, rfl⟩
            rw [c266] at p229
            obtain ⟨v267, c268⟩ : ∃ v, I193 a0 14 = v := ⟨_, rfl⟩
            rw [c268] at p230
            refine tr_goto 186 dX12_readLine_30 (by decide) ?_
            obtain ⟨v269, c270⟩ : ∃ v, I193 a1 2 = v := ⟨_, rfl⟩
            have b271 := iv14_2 hS200.1 ta1 c270
            obtain ⟨v272, c273⟩ : ∃ v, I193 a0 10 = v := ⟨_, rfl⟩
            have b274 := iv15_10 hS200.1 ta0 c273
            obtain ⟨v275, c276⟩ : ∃ v, I193 a0 11 = v := ⟨_, rfl⟩
            obtain ⟨y277, c278⟩ : ∃ v, L195 a0 15 = v := ⟨_, rfl⟩
            obtain ⟨v279, c280⟩ : ∃ v, I193 a0 12 = v := ⟨_, rfl⟩
            obtain ⟨v281, c282⟩ : ∃ v, I193 a0 8 = v := ⟨_, rfl⟩
            have b283 := iv15_8 hS200.1 ta0 c282
            exact tr_vret hZ dX12_readLine_186 rfl (by decide) (by decide) ⟨rfl, rfl, rfl, rfl, rfl, hS200, (Or.inr (⟨(by first | done | omega), (by (try rw [c263]); first | done | omega), (by (try rw [c266]); first | done | omega), (by (try rw [c268]); first | done | omega), trivial⟩)), trivial⟩
      · skip
        refine q_if_eq 33 dX12_readLine_22 (by decide) (fun h284 => ?_) (fun h284 => ?_)
        · skip
          refine tr_aload_n dX12_readLine_33 rfl ?_
          refine tr_ldcS dX12_readLine_34 ld12_168 ?_
          refine q_callVi hE (M' := mX12_isWord) (as := [_]) dX12_readLine_36 lk12_138 inX12_isWord seX12_isWord myX12_isWord (by decide) ⟨by decide, by decide⟩ rfl (kR15 hS0.1 ta0) (Nat.le_of_ble_eq_true rfl) rfl rfl (by decide) (by decide) (fk_X12_isWord hS0.1 (gB) (gs) ta0 (by decide) (by (try rw [c4]); first | done | omega) (by (try rw [c16]); first | done | assumption)) ?_
          rintro v290 cn' K' N' I285 R286 L287 ⟨rfl, rfl, rfl, rfl, rfl, rfl, h291, dj292, -⟩
          (try rw [pk_11] at dj292)
          rcases dj292 with ⟨p293, p294, p295, -⟩ | ⟨p296, p297, -⟩
          · skip
            have sr298 : srt gB gs = 1 := srt_1 (by omega) (by omega)
            refine q_if_eq 50 dX12_readLine_39 (by decide) (fun h299 => ?_) (fun h299 => ?_)
            · skip
              exfalso; omega
            · skip
              refine tr_aload_n dX12_readLine_42 rfl ?_
              refine q_iconst dX12_readLine_43 (by decide) ?_
              intro v300 h301
              refine q_callVv hE (M' := mX12_readEvent) (as := [_]) dX12_readLine_44 lk12_230 inX12_readEvent seX12_readEvent myX12_readEvent (by decide) ⟨by decide, by decide⟩ rfl (kR15 hS0.1 ta0) (Nat.le_of_ble_eq_true rfl) rfl rfl (by decide) (by decide) (fk_X12_readEvent hS0.1 (gB) (gs) (gQ) ta0 (by omega) (TxA.kp hT hS0 ta0 rfl rfl rfl (by decide +kernel) (by decide +kernel)) (fun b hb => (Option.some.inj (d2.symm.trans hb)) ▸ hM0) (by (try rw [c4]); first | done | omega) (by (try rw [c4]); first | done | omega) (by (try rw [c9]); first | done | omega) (by (try rw [c13]); first | done | omega) (by (try rw [c16]); first | done | assumption) (by (try rw [c19]); first | done | assumption) (by (try rw [c22]); first | done | assumption) (by (try rw [c26]); first | done | omega) (fun q0 z0 => by obtain rfl := Option.some.inj ((d2).symm.trans z0); (try rw [c30]); first | done | omega) (fun q0 z0 => by obtain rfl := Option.some.inj ((d2).symm.trans z0); (try rw [c34]); first | done | omega) (fun q0 z0 => by obtain rfl := Option.some.inj ((d2).symm.trans z0); (try rw [c38]); first | done | omega) (fun q0 z0 => by obtain rfl := Option.some.inj ((d2).symm.trans z0); (try rw [c42]); first | done | omega) (fun q0 z0 => by obtain rfl := Option.some.inj ((d2).symm.trans z0); (try rw [c46]); first | done | omega) (fun q0 z0 => by obtain rfl := Option.some.inj ((d2).symm.trans z0); (try rw [c50]); first | done | omega) (fun q0 z0 => by obtain rfl := Option.some.inj ((d2).symm.trans z0); (try rw [c54]); first | done | omega) (fun q0 z0 => by obtain rfl := Option.some.inj ((d2).symm.trans z0); (try rw [c58]); first | done | omega) (by first | done | assumption) (by first | done | omega) (by first | done | omega) ⟨_, d2⟩) ?_
              rintro cn' K' N' I302 R303 L304 ⟨rfl, rfl, rfl, rfl, g305, dj308, -⟩
              have hS309 := hS0.tr g305 (by decide +kernel) (by decide +kernel)
              have c310 : I302 a1 0 = v29 := (g305.cell ta1 (by decide +kernel)).trans c30
              have c311 : I302 a1 1 = v33 := (g305.cell ta1 (by decide +kernel)).trans c34
              have c312 : I302 a1 3 = v41 := (g305.cell ta1 (by decide +kernel)).trans c42
              have c313 : I302 a1 4 = v45 := (g305.cell ta1 (by decide +kernel)).trans c46
              have c314 : I302 a1 5 = v49 := (g305.cell ta1 (by decide +kernel)).trans c50
              have c315 : I302 a1 6 = v53 := (g305.cell ta1 (by decide +kernel)).trans c54
              have c316 : I302 a1 9 = v57 := (g305.cell ta1 (by decide +kernel)).trans c58
              rcases dj308 with ⟨p317, p318, p319, p320, p321, p322, p323, p324, p325, p326, p327, p328, p329, p330, p331, p332, p333, gl334, rp335, -⟩ | ⟨p336, p337, p338, p339, -⟩
              · skip
                have hL340 := hL0.tr gl334 (by decide +kernel)
                have p341 := p318 _ d2
                clear p318
                rw [c310] at p341
                have p342 := p319 _ d2
                clear p319
                rw [c311] at p342
                obtain ⟨v343, c344⟩ : ∃ v, I302 a1 2 = v := ⟨_, rfl⟩
                have b345 := iv14_2 hS309.1 ta1 c344
                have p346 := p320 _ d2
                clear p320
                rw [c344] at p346
                have p347 := p321 _ d2
                clear p321
                rw [c312] at p347
                have p348 := p322 _ d2
                clear p322
                rw [c313] at p348
                have p349 := p323 _ d2
                clear p323
                rw [c314] at p349
                have p350 := p324 _ d2
                clear p324
                rw [c315] at p350
                have p351 := p325 _ d2
                clear p325
                rw [c316] at p351
                obtain ⟨v352, c353⟩ : ∃ v, I302 a0 13 = v := ⟨_, rfl⟩
                rw [c353] at p326
                rw [c63] at p326
                obtain ⟨v354, c355⟩ : ∃ v, I302 a0 9 = v := ⟨_, rfl⟩
                have b356 := iv15_9 hS309.1 ta0 c355
                rw [c355] at p327
                rw [c355] at p328
                obtain ⟨v357, c358⟩ : ∃ v, I302 a0 10 = v := ⟨_, rfl⟩
                have b359 := iv15_10 hS309.1 ta0 c358
                rw [c358] at p329
                obtain ⟨v360, c361⟩ : ∃ v, I302 a0 11 = v := ⟨_, rfl⟩
                rw [c361] at p330
                obtain ⟨y362, c363⟩ : ∃ v, L304 a0 15 = v := ⟨_, rfl⟩
                rw [c363] at p331
                obtain ⟨v364, c365⟩ : ∃ v, I302 a0 12 = v := ⟨_, rfl⟩
                rw [c365] at p332
                obtain ⟨v366, c367⟩ : ∃ v, I302 a0 8 = v := ⟨_, rfl⟩
                have b368 := iv15_8 hS309.1 ta0 c367
                rw [c367] at p333
                refine tr_goto 186 dX12_readLine_47 (by decide) ?_
                obtain ⟨v369, c370⟩ : ∃ v, I302 a0 14 = v := ⟨_, rfl⟩
                exact tr_vret hZ dX12_readLine_186 rfl (by decide) (by decide) ⟨rfl, rfl, rfl, rfl, rfl, hS309, (Or.inl ⟨(by first | done | omega), (fun q0 z0 => by obtain rfl := Option.some.inj ((d2).symm.trans z0); (try rw [c310]); first | done | omega), (fun q0 z0 => by obtain rfl := Option.some.inj ((d2).symm.trans z0); (try rw [c311]); first | done | omega), (fun q0 z0 => by obtain rfl := Option.some.inj ((d2).symm.trans z0); (try rw [c344]); first | done | omega), (fun q0 z0 => by obtain rfl := Option.some.inj ((d2).symm.trans z0); (try rw [c312]); first | done | omega), (fun q0 z0 => by obtain rfl := Option.some.inj ((d2).symm.trans z0); (try rw [c313]); first | done | omega), (fun q0 z0 => by obtain rfl := Option.some.inj ((d2).symm.trans z0); (try rw [c314]); first | done | omega), (fun q0 z0 => by obtain rfl := Option.some.inj ((d2).symm.trans z0); (try rw [c315]); first | done | omega), (fun q0 z0 => by obtain rfl := Option.some.inj ((d2).symm.trans z0); (try rw [c316]); first | done | omega), (by (try rw [c353]); (try rw [c63]); first | done | omega), (by (try rw [c355]); first | done | omega), (by (try rw [c355]); first | done | omega), (by (try rw [c358]); first | done | omega), (by (try rw [c361]); first | done | omega), (by (try rw [c363]); first | done | assumption), (by (try rw [c365]); first | done | assumption), (by (try rw [c367]); first | done | assumption), hL340, (fun b hb => (Option.some.inj (d2.symm.trans hb)) ▸ (rp335 _ d2)), trivial⟩), trivial⟩
              · skip
                obtain ⟨v371, c372⟩ : ∃ v, I302 a0 9 = v := ⟨_, rfl⟩
                have b373 := iv15_9 hS309.1 ta0 c372
                rw [c372] at p337
                obtain ⟨v374, c375⟩ : ∃ v, I302 a0 13 = v := ⟨_, rfl⟩
                rw [c375] at p338
                obtain ⟨v376, c377⟩ : ∃ v, I302 a0 14 = v := ⟨_, rfl⟩
                rw [c377] at p339
                refine tr_goto 186 dX12_readLine_47 (by decide) ?_
                obtain ⟨v378, c379⟩ : ∃ v, I302 a1 2 = v := ⟨_, rfl⟩
                have b380 := iv14_2 hS309.1 ta1 c379
                obtain ⟨v381, c382⟩ : ∃ v, I302 a0 10 = v := ⟨_, rfl⟩
                have b383 := iv15_10 hS309.1 ta0 c382
                obtain ⟨v384, c385⟩ : ∃ v, I302 a0 11 = v := ⟨_, rfl⟩
                obtain ⟨y386, c387⟩ : ∃ v, L304 a0 15 = v := ⟨_, rfl⟩
                obtain ⟨v388, c389⟩ : ∃ v, I302 a0 12 = v := ⟨_, rfl⟩
                obtain ⟨v390, c391⟩ : ∃ v, I302 a0 8 = v := ⟨_, rfl⟩
                have b392 := iv15_8 hS309.1 ta0 c391
                exact tr_vret hZ dX12_readLine_186 rfl (by decide) (by decide) ⟨rfl, rfl, rfl, rfl, rfl, hS309, (Or.inr (⟨(by first | done | omega), (by (try rw [c372]); first | done | omega), (by (try rw [c375]); first | done | omega), (by (try rw [c377]); first | done | omega), trivial⟩)), trivial⟩
          · skip
            refine q_if_eq 50 dX12_readLine_39 (by decide) (fun h393 => ?_) (fun h393 => ?_)
            · skip
              refine tr_aload_n dX12_readLine_50 rfl ?_
              refine tr_ldcS dX12_readLine_51 ld12_170 ?_
              refine q_callVi hE (M' := mX12_isWord) (as := [_]) dX12_readLine_53 lk12_138 inX12_isWord seX12_isWord myX12_isWord (by decide) ⟨by decide, by decide⟩ rfl (kR15 hS0.1 ta0) (Nat.le_of_ble_eq_true rfl) rfl rfl (by decide) (by decide) (fk_X12_isWord hS0.1 (gB) (gs) ta0 (by decide) (by (try rw [c4]); first | done | omega) (by (try rw [c16]); first | done | assumption)) ?_
              rintro v399 cn' K' N' I394 R395 L396 ⟨rfl, rfl, rfl, rfl, rfl, rfl, h400, dj401, -⟩
              (try rw [pk_17] at dj401)
              rcases dj401 with ⟨p402, p403, p404, -⟩ | ⟨p405, p406, -⟩
              · skip
                have sr407 : srt gB gs = 2 := srt_2 (by omega) (by omega)
                refine q_if_eq 67 dX12_readLine_56 (by decide) (fun h408 => ?_) (fun h408 => ?_)
                · skip
                  exfalso; omega
                · skip
                  refine tr_aload_n dX12_readLine_59 rfl ?_
                  refine q_iconst dX12_readLine_60 (by decide) ?_
                  intro v409 h410
                  refine q_callVv hE (M' := mX12_readEvent) (as := [_]) dX12_readLine_61 lk12_230 inX12_readEvent seX12_readEvent myX12_readEvent (by decide) ⟨by decide, by decide⟩ rfl (kR15 hS0.1 ta0) (Nat.le_of_ble_eq_true rfl) rfl rfl (by decide) (by decide) (fk_X12_readEvent hS0.1 (gB) (gs) (gQ) ta0 (by omega) (TxA.kp hT hS0 ta0 rfl rfl rfl (by decide +kernel) (by decide +kernel)) (fun b hb => (Option.some.inj (d2.symm.trans hb)) ▸ hM0) (by (try rw [c4]); first | done | omega) (by (try rw [c4]); first | done | omega) (by (try rw [c9]); first | done | omega) (by (try rw [c13]); first | done | omega) (by (try rw [c16]); first | done | assumption) (by (try rw [c19]); first | done | assumption) (by (try rw [c22]); first | done | assumption) (by (try rw [c26]); first | done | omega) (fun q0 z0 => by obtain rfl := Option.some.inj ((d2).symm.trans z0); (try rw [c30]); first | done | omega) (fun q0 z0 => by obtain rfl := Option.some.inj ((d2).symm.trans z0); (try rw [c34]); first | done | omega) (fun q0 z0 => by obtain rfl := Option.some.inj ((d2).symm.trans z0); (try rw [c38]); first | done | omega) (fun q0 z0 => by obtain rfl := Option.some.inj ((d2).symm.trans z0); (try rw [c42]); first | done | omega) (fun q0 z0 => by obtain rfl := Option.some.inj ((d2).symm.trans z0); (try rw [c46]); first | done | omega) (fun q0 z0 => by obtain rfl := Option.some.inj ((d2).symm.trans z0); (try rw [c50]); first | done | omega) (fun q0 z0 => by obtain rfl := Option.some.inj ((d2).symm.trans z0); (try rw [c54]); first | done | omega) (fun q0 z0 => by obtain rfl := Option.some.inj ((d2).symm.trans z0); (try rw [c58]); first | done | omega) (by first | done | assumption) (by first | done | omega) (by first | done | omega) ⟨_, d2⟩) ?_
                  rintro cn' K' N' I411 R412 L413 ⟨rfl, rfl, rfl, rfl, g414, dj417, -⟩
                  have hS418 := hS0.tr g414 (by decide +kernel) (by decide +kernel)
                  have c419 : I411 a1 0 = v29 := (g414.cell ta1 (by decide +kernel)).trans c30
                  have c420 : I411 a1 1 = v33 := (g414.cell ta1 (by decide +kernel)).trans c34
                  have c421 : I411 a1 3 = v41 := (g414.cell ta1 (by decide +kernel)).trans c42
                  have c422 : I411 a1 4 = v45 := (g414.cell ta1 (by decide +kernel)).trans c46
                  have c423 : I411 a1 5 = v49 := (g414.cell ta1 (by decide +kernel)).trans c50
                  have c424 : I411 a1 6 = v53 := (g414.cell ta1 (by decide +kernel)).trans c54
                  have c425 : I411 a1 9 = v57 := (g414.cell ta1 (by decide +kernel)).trans c58
                  rcases dj417 with ⟨p426, p427, p428, p429, p430, p431, p432, p433, p434, p435, p436, p437, p438, p439, p440, p441, p442, gl443, rp444, -⟩ | ⟨p445, p446, p447, p448, -⟩
                  · skip
                    have hL449 := hL0.tr gl443 (by decide +kernel)
                    have p450 := p427 _ d2
                    clear p427
                    rw [c419] at p450
                    have p451 := p428 _ d2
                    clear p428
                    rw [c420] at p451
                    obtain ⟨v452, c453⟩ : ∃ v, I411 a1 2 = v := ⟨_, rfl⟩
                    have b454 := iv14_2 hS418.1 ta1 c453
                    have p455 := p429 _ d2
                    clear p429
                    rw [c453] at p455
                    have p456 := p430 _ d2
                    clear p430
                    rw [c421] at p456
                    have p457 := p431 _ d2
                    clear p431
                    rw [c422] at p457
                    have p458 := p432 _ d2
                    clear p432
                    rw [c423] at p458
                    have p459 := p433 _ d2
                    clear p433
                    rw [c424] at p459
                    have p460 := p434 _ d2
                    clear p434
                    rw [c425] at p460
                    obtain ⟨v461, c462⟩ : ∃ v, I411 a0 13 = v := ⟨_, rfl⟩
                    rw [c462] at p435
                    rw [c63] at p435
                    obtain ⟨v463, c464⟩ : ∃ v, I411 a0 9 = v := ⟨_, rfl⟩
                    have b465 := iv15_9 hS418.1 ta0 c464
                    rw [c464] at p436
                    rw [c464] at p437
                    obtain ⟨v466, c467⟩ : ∃ v, I411 a0 10 = v := ⟨_, rfl⟩
                    have b468 := iv15_10 hS418.1 ta0 c467
                    rw [c467] at p438
                    obtain ⟨v469, c470⟩ : ∃ v, I411 a0 11 = v := ⟨_, rfl⟩
                    rw [c470] at p439
                    obtain ⟨y471, c472⟩ : ∃ v, L413 a0 15 = v := ⟨_, rfl⟩
                    rw [c472] at p440
                    obtain ⟨v473, c474⟩ : ∃ v, I411 a0 12 = v := ⟨_, rfl⟩
                    rw [c474] at p441
                    obtain ⟨v475, c476⟩ : ∃ v, I411 a0 8 = v := ⟨_, rfl⟩
                    have b477 := iv15_8 hS418.1 ta0 c476
                    rw [c476] at p442
                    refine tr_goto 186 dX12_readLine_64 (by decide) ?_
                    obtain ⟨v478, c479⟩ : ∃ v, I411 a0 14 = v := ⟨_, rfl⟩
                    exact tr_vret hZ dX12_readLine_186 rfl (by decide) (by decide) ⟨rfl, rfl, rfl, rfl, rfl, hS418, (Or.inl ⟨(by first | done | omega), (fun q0 z0 => by obtain rfl := Option.some.inj ((d2).symm.trans z0); (try rw [c419]); first | done | omega), (fun q0 z0 => by obtain rfl := Option.some.inj ((d2).symm.trans z0); (try rw [c420]); first | done | omega), (fun q0 z0 => by obtain rfl := Option.some.inj ((d2).symm.trans z0); (try rw [c453]); first | done | omega), (fun q0 z0 => by obtain rfl := Option.some.inj ((d2).symm.trans z0); (try rw [c421]); first | done | omega), (fun q0 z0 => by obtain rfl := Option.some.inj ((d2).symm.trans z0); (try rw [c422]); first | done | omega), (fun q0 z0 => by obtain rfl := Option.some.inj ((d2).symm.trans z0); (try rw [c423]); first | done | omega), (fun q0 z0 => by obtain rfl := Option.some.inj ((d2).symm.trans z0); (try rw [c424]); first | done | omega), (fun q0 z0 => by obtain rfl := Option.some.inj ((d2).symm.trans z0); (try rw [c425]); first | done | omega), (by (try rw [c462]); (try rw [c63]); first | done | omega), (by (try rw [c464]); first | done | omega), (by (try rw [c464]); first | done | omega), (by (try rw [c467]); first | done | omega), (by (try rw [c470]); first | done | omega), (by (try rw [c472]); first | done | assumption), (by (try rw [c474]); first | done | assumption), (by (try rw [c476]); first | done | assumption), hL449, (fun b hb => (Option.some.inj (d2.symm.trans hb)) ▸ (rp444 _ d2)), trivial⟩), trivial⟩
                  · skip
                    obtain ⟨v480, c481⟩ : ∃ v, I411 a0 9 = v := ⟨_, rfl⟩
                    have b482 := iv15_9 hS418.1 ta0 c481
                    rw [c481] at p446
                    obtain ⟨v483, c484⟩ : ∃ v, I411 a0 13 = v := ⟨_, rfl⟩
                    rw [c484] at p447
                    obtain ⟨v485, c486⟩ : ∃ v, I411 a0 14 = v := ⟨_, rfl⟩
                    rw [c486] at p448
                    refine tr_goto 186 dX12_readLine_64 (by decide) ?_
                    obtain ⟨v487, c488⟩ : ∃ v, I411 a1 2 = v := ⟨_, rfl⟩
                    have b489 := iv14_2 hS418.1 ta1 c488
                    obtain ⟨v490, c491⟩ : ∃ v, I411 a0 10 = v := ⟨_, rfl⟩
                    have b492 := iv15_10 hS418.1 ta0 c491
                    obtain ⟨v493, c494⟩ : ∃ v, I411 a0 11 = v := ⟨_, rfl⟩
                    obtain ⟨y495, c496⟩ : ∃ v, L413 a0 15 = v := ⟨_, rfl⟩
                    obtain ⟨v497, c498⟩ : ∃ v, I411 a0 12 = v := ⟨_, rfl⟩
                    obtain ⟨v499, c500⟩ : ∃ v, I411 a0 8 = v := ⟨_, rfl⟩
                    have b501 := iv15_8 hS418.1 ta0 c500
                    exact tr_vret hZ dX12_readLine_186 rfl (by decide) (by decide) ⟨rfl, rfl, rfl, rfl, rfl, hS418, (Or.inr (⟨(by first | done | omega), (by (try rw [c481]); first | done | omega), (by (try rw [c484]); first | done | omega), (by (try rw [c486]); first | done | omega), trivial⟩)), trivial⟩
              · skip
                refine q_if_eq 67 dX12_readLine_56 (by decide) (fun h502 => ?_) (fun h502 => ?_)
                · skip
                  refine tr_aload_n dX12_readLine_67 rfl ?_
                  refine tr_ldcS dX12_readLine_68 ld12_172 ?_
                  refine q_callVi hE (M' := mX12_isWord) (as := [_]) dX12_readLine_70 lk12_138 inX12_isWord seX12_isWord myX12_isWord (by decide) ⟨by decide, by decide⟩ rfl (kR15 hS0.1 ta0) (Nat.le_of_ble_eq_true rfl) rfl rfl (by decide) (by decide) (fk_X12_isWord hS0.1 (gB) (gs) ta0 (by decide) (by (try rw [c4]); first | done | omega) (by (try rw [c16]); first | done | assumption)) ?_
                  rintro v508 cn' K' N' I503 R504 L505 ⟨rfl, rfl, rfl, rfl, rfl, rfl, h509, dj510, -⟩
                  (try rw [pk_22] at dj510)
                  rcases dj510 with ⟨p511, p512, p513, -⟩ | ⟨p514, p515, -⟩
                  · skip
                    have sr516 : srt gB gs = 3 := srt_3 (by omega) (by omega)
                    refine q_if_eq 84 dX12_readLine_73 (by decide) (fun h517 => ?_) (fun h517 => ?_)
                    · skip
                      exfalso; omega
                    · skip
                      refine tr_aload_n dX12_readLine_76 rfl ?_
                      refine q_iconst dX12_readLine_77 (by decide) ?_
                      intro v518 h519
                      refine q_callVv hE (M' := mX12_readEvent) (as := [_]) dX12_readLine_78 lk12_230 inX12_readEvent seX12_readEvent myX12_readEvent (by decide) ⟨by decide, by decide⟩ rfl (kR15 hS0.1 ta0) (Nat.le_of_ble_eq_true rfl) rfl rfl (by decide) (by decide) (fk_X12_readEvent hS0.1 (gB) (gs) (gQ) ta0 (by omega) (TxA.kp hT hS0 ta0 rfl rfl rfl (by decide +kernel) (by decide +kernel)) (fun b hb => (Option.some.inj (d2.symm.trans hb)) ▸ hM0) (by (try rw [c4]); first | done | omega) (by (try rw [c4]); first | done | omega) (by (try rw [c9]); first | done | omega) (by (try rw [c13]); first | done | omega) (by (try rw [c16]); first | done | assumption) (by (try rw [c19]); first | done | assumption) (by (try rw [c22]); first | done | assumption) (by (try rw [c26]); first | done | omega) (fun q0 z0 => by obtain rfl := Option.some.inj ((d2).symm.trans z0); (try rw [c30]); first | done | omega) (fun q0 z0 => by obtain rfl := Option.some.inj ((d2).symm.trans z0); (try rw [c34]); first | done | omega) (fun q0 z0 => by obtain rfl := Option.some.inj ((d2).symm.trans z0); (try rw [c38]); first | done | omega) (fun q0 z0 => by obtain rfl := Option.some.inj ((d2).symm.trans z0); (try rw [c42]); first | done | omega) (fun q0 z0 => by obtain rfl := Option.some.inj ((d2).symm.trans z0); (try rw [c46]); first | done | omega) (fun q0 z0 => by obtain rfl := Option.some.inj ((d2).symm.trans z0); (try rw [c50]); first | done | omega) (fun q0 z0 => by obtain rfl := Option.some.inj ((d2).symm.trans z0); (try rw [c54]); first | done | omega) (fun q0 z0 => by obtain rfl := Option.some.inj ((d2).symm.trans z0); (try rw [c58]); first | done | omega) (by first | done | assumption) (by first | done | omega) (by first | done | omega) ⟨_, d2⟩) ?_
                      rintro cn' K' N' I520 R521 L522 ⟨rfl, rfl, rfl, rfl, g523, dj526, -⟩
                      have hS527 := hS0.tr g523 (by decide +kernel) (by decide +kernel)
                      have c528 : I520 a1 0 = v29 := (g523.cell ta1 (by decide +kernel)).trans c30
                      have c529 : I520 a1 1 = v33 := (g523.cell ta1 (by decide +kernel)).trans c34
                      have c530 : I520 a1 3 = v41 := (g523.cell ta1 (by decide +kernel)).trans c42
                      have c531 : I520 a1 4 = v45 := (g523.cell ta1 (by decide +kernel)).trans c46
                      have c532 : I520 a1 5 = v49 := (g523.cell ta1 (by decide +kernel)).trans c50
                      have c533 : I520 a1 6 = v53 := (g523.cell ta1 (by decide +kernel)).trans c54
                      have c534 : I520 a1 9 = v57 := (g523.cell ta1 (by decide +kernel)).trans c58
                      rcases dj526 with ⟨p535, p536, p537, p538, p539, p540, p541, p542, p543, p544, p545, p546, p547, p548, p549, p550, p551, gl552, rp553, -⟩ | ⟨p554, p555, p556, p557, -⟩
                      · skip
                        have hL558 := hL0.tr gl552 (by decide +kernel)
                        have p559 := p536 _ d2
                        clear p536
                        rw [c528] at p559
                        have p560 := p537 _ d2
                        clear p537
                        rw [c529] at p560
                        obtain ⟨v561, c562⟩ : ∃ v, I520 a1 2 = v := ⟨_, rfl⟩
                        have b563 := iv14_2 hS527.1 ta1 c562
                        have p564 := p538 _ d2
                        clear p538
                        rw [c562] at p564
                        have p565 := p539 _ d2
                        clear p539
                        rw [c530] at p565
                        have p566 := p540 _ d2
                        clear p540
                        rw [c531] at p566
                        have p567 := p541 _ d2
                        clear p541
                        rw [c532] at p567
                        have p568 := p542 _ d2
                        clear p542
                        rw [c533] at p568
                        have p569 := p543 _ d2
                        clear p543
                        rw [c534] at p569
                        obtain ⟨v570, c571⟩ : ∃ v, I520 a0 13 = v := ⟨_, rfl⟩
                        rw [c571] at p544
                        rw [c63] at p544
                        obtain ⟨v572, c573⟩ : ∃ v, I520 a0 9 = v := ⟨_, rfl⟩
                        have b574 := iv15_9 hS527.1 ta0 c573
                        rw [c573] at p545
                        rw [c573] at p546
                        obtain ⟨v575, c576⟩ : ∃ v, I520 a0 10 = v := ⟨_, rfl⟩
                        have b577 := iv15_10 hS527.1 ta0 c576
                        rw [c576] at p547
                        obtain ⟨v578, c579⟩ : ∃ v, I520 a0 11 = v := ⟨_, rfl⟩
                        rw [c579] at p548
                        obtain ⟨y580, c581⟩ : ∃ v, L522 a0 15 = v := ⟨_, rfl⟩
                        rw [c581] at p549
                        obtain ⟨v582, c583⟩ : ∃ v, I520 a0 12 = v := ⟨_, rfl⟩
                        rw [c583] at p550
                        obtain ⟨v584, c585⟩ : ∃ v, I520 a0 8 = v := ⟨_, rfl⟩
                        have b586 := iv15_8 hS527.1 ta0 c585
                        rw [c585] at p551
                        refine tr_goto 186 dX12_readLine_81 (by decide) ?_
                        obtain ⟨v587, c588⟩ : ∃ v, I520 a0 14 = v := ⟨_, rfl⟩
                        exact tr_vret hZ dX12_readLine_186 rfl (by decide) (by decide) ⟨rfl, rfl, rfl, rfl, rfl, hS527, (Or.inl ⟨(by first | done | omega), (fun q0 z0 => by obtain rfl := Option.some.inj ((d2).symm.trans z0); (try rw [c528]); first | done | omega), (fun q0 z0 => by obtain rfl := Option.some.inj ((d2).symm.trans z0); (try rw [c529]); first | done | omega), (fun q0 z0 => by obtain rfl := Option.some.inj ((d2).symm.trans z0); (try rw [c562]); first | done | omega), (fun q0 z0 => by obtain rfl := Option.some.inj ((d2).symm.trans z0); (try rw [c530]); first | done | omega), (fun q0 z0 => by obtain rfl := Option.some.inj ((d2).symm.trans z0); (try rw [c531]); first | done | omega), (fun q0 z0 => by obtain rfl := Option.some.inj ((d2).symm.trans z0); (try rw [c532]); first | done | omega), (fun q0 z0 => by obtain rfl := Option.some.inj ((d2).symm.trans z0); (try rw [c533]); first | done | omega), (fun q0 z0 => by obtain rfl := Option.some.inj ((d2).symm.trans z0); (try rw [c534]); first | done | omega), (by (try rw [c571]); (try rw [c63]); first | done | omega), (by (try rw [c573]); first | done | omega), (by (try rw [c573]); first | done | omega), (by (try rw [c576]); first | done | omega), (by (try rw [c579]); first | done | omega), (by (try rw [c581]); first | done | assumption), (by (try rw [c583]); first | done | assumption), (by (try rw [c585]); first | done | assumption), hL558, (fun b hb => (Option.some.inj (d2.symm.trans hb)) ▸ (rp553 _ d2)), trivial⟩), trivial⟩
                      · skip
                        obtain ⟨v589, c590⟩ : ∃ v, I520 a0 9 = v := ⟨_, rfl⟩
                        have b591 := iv15_9 hS527.1 ta0 c590
                        rw [c590] at p555
                        obtain ⟨v592, c593⟩ : ∃ v, I520 a0 13 = v := ⟨_, rfl⟩
                        rw [c593] at p556
                        obtain ⟨v594, c595⟩ : ∃ v, I520 a0 14 = v := ⟨_, rfl⟩
                        rw [c595] at p557
                        refine tr_goto 186 dX12_readLine_81 (by decide) ?_
                        obtain ⟨v596, c597⟩ : ∃ v, I520 a1 2 = v := ⟨_, rfl⟩
                        have b598 := iv14_2 hS527.1 ta1 c597
                        obtain ⟨v599, c600⟩ : ∃ v, I520 a0 10 = v := ⟨_, rfl⟩
                        have b601 := iv15_10 hS527.1 ta0 c600
                        obtain ⟨v602, c603⟩ : ∃ v, I520 a0 11 = v := ⟨_, rfl⟩
                        obtain ⟨y604, c605⟩ : ∃ v, L522 a0 15 = v := ⟨_, rfl⟩
                        obtain ⟨v606, c607⟩ : ∃ v, I520 a0 12 = v := ⟨_, rfl⟩
                        obtain ⟨v608, c609⟩ : ∃ v, I520 a0 8 = v := ⟨_, rfl⟩
                        have b610 := iv15_8 hS527.1 ta0 c609
                        exact tr_vret hZ dX12_readLine_186 rfl (by decide) (by decide) ⟨rfl, rfl, rfl, rfl, rfl, hS527, (Or.inr (⟨(by first | done | omega), (by (try rw [c590]); first | done | omega), (by (try rw [c593]); first | done | omega), (by (try rw [c595]); first | done | omega), trivial⟩)), trivial⟩
                  · skip
                    refine q_if_eq 84 dX12_readLine_73 (by decide) (fun h611 => ?_) (fun h611 => ?_)
                    · skip
                      refine tr_aload_n dX12_readLine_84 rfl ?_
                      refine tr_ldcS dX12_readLine_85 ld12_174 ?_
                      refine q_callVi hE (M' := mX12_isWord) (as := [_]) dX12_readLine_87 lk12_138 inX12_isWord seX12_isWord myX12_isWord (by decide) ⟨by decide, by decide⟩ rfl (kR15 hS0.1 ta0) (Nat.le_of_ble_eq_true rfl) rfl rfl (by decide) (by decide) (fk_X12_isWord hS0.1 (gB) (gs) ta0 (by decide) (by (try rw [c4]); first | done | omega) (by (try rw [c16]); first | done | assumption)) ?_
                      rintro v617 cn' K' N' I612 R613 L614 ⟨rfl, rfl, rfl, rfl, rfl, rfl, h618, dj619, -⟩
                      (try rw [pk_4] at dj619)
                      rcases dj619 with ⟨p620, p621, p622, -⟩ | ⟨p623, p624, -⟩
                      · skip
                        have sr625 : srt gB gs = 4 := srt_4 (by omega) (by omega)
                        refine q_if_eq 101 dX12_readLine_90 (by decide) (fun h626 => ?_) (fun h626 => ?_)
                        · skip
                          exfalso; omega
                        · skip
                          refine tr_aload_n dX12_readLine_93 rfl ?_
                          refine q_iconst dX12_readLine_94 (by decide) ?_
                          intro v627 h628
                          refine q_callVv hE (M' := mX12_readEvent) (as := [_]) dX12_readLine_95 lk12_230 inX12_readEvent seX12_readEvent myX12_readEvent (by decide) ⟨by decide, by decide⟩ rfl (kR15 hS0.1 ta0) (Nat.le_of_ble_eq_true rfl) rfl rfl (by decide) (by decide) (fk_X12_readEvent hS0.1 (gB) (gs) (gQ) ta0 (by omega) (TxA.kp hT hS0 ta0 rfl rfl rfl (by decide +kernel) (by decide +kernel)) (fun b hb => (Option.some.inj (d2.symm.trans hb)) ▸ hM0) (by (try rw [c4]); first | done | omega) (by (try rw [c4]); first | done | omega) (by (try rw [c9]); first | done | omega) (by (try rw [c13]); first | done | omega) (by (try rw [c16]); first | done | assumption) (by (try rw [c19]); first | done | assumption) (by (try rw [c22]); first | done | assumption) (by (try rw [c26]); first | done | omega) (fun q0 z0 => by obtain rfl := Option.some.inj ((d2).symm.trans z0); (try rw [c30]); first | done | omega) (fun q0 z0 => by obtain rfl := Option.some.inj ((d2).symm.trans z0); (try rw [c34]); first | done | omega) (fun q0 z0 => by obtain rfl := Option.some.inj ((d2).symm.trans z0); (try rw [c38]); first | done | omega) (fun q0 z0 => by obtain rfl := Option.some.inj ((d2).symm.trans z0); (try rw [c42]); first | done | omega) (fun q0 z0 => by obtain rfl := Option.some.inj ((d2).symm.trans z0); (try rw [c46]); first | done | omega) (fun q0 z0 => by obtain rfl := Option.some.inj ((d2).symm.trans z0); (try rw [c50]); first | done | omega) (fun q0 z0 => by obtain rfl := Option.some.inj ((d2).symm.trans z0); (try rw [c54]); first | done | omega) (fun q0 z0 => by obtain rfl := Option.some.inj ((d2).symm.trans z0); (try rw [c58]); first | done | omega) (by first | done | assumption) (by first | done | omega) (by first | done | omega) ⟨_, d2⟩) ?_
                          rintro cn' K' N' I629 R630 L631 ⟨rfl, rfl, rfl, rfl, g632, dj635, -⟩
                          have hS636 := hS0.tr g632 (by decide +kernel) (by decide +kernel)
                          have c637 : I629 a1 0 = v29 := (g632.cell ta1 (by decide +kernel)).trans c30
                          have c638 : I629 a1 1 = v33 := (g632.cell ta1 (by decide +kernel)).trans c34
                          have c639 : I629 a1 3 = v41 := (g632.cell ta1 (by decide +kernel)).trans c42
                          have c640 : I629 a1 4 = v45 := (g632.cell ta1 (by decide +kernel)).trans c46
                          have c641 : I629 a1 5 = v49 := (g632.cell ta1 (by decide +kernel)).trans c50
                          have c642 : I629 a1 6 = v53 := (g632.cell ta1 (by decide +kernel)).trans c54
                          have c643 : I629 a1 9 = v57 := (g632.cell ta1 (by decide +kernel)).trans c58
                          rcases dj635 with ⟨p644, p645, p646, p647, p648, p649, p650, p651, p652, p653, p654, p655, p656, p657, p658, p659, p660, gl661, rp662, -⟩ | ⟨p663, p664, p665, p666, -⟩
                          · skip
                            have hL667 := hL0.tr gl661 (by decide +kernel)
                            have p668 := p645 _ d2
                            clear p645
                            rw [c637] at p668
                            have p669 := p646 _ d2
                            clear p646
                            rw [c638] at p669
                            obtain ⟨v670, c671⟩ : ∃ v, I629 a1 2 = v := ⟨_, rfl⟩
                            have b672 := iv14_2 hS636.1 ta1 c671
                            have p673 := p647 _ d2
                            clear p647
                            rw [c671] at p673
                            have p674 := p648 _ d2
                            clear p648
                            rw [c639] at p674
                            have p675 := p649 _ d2
                            clear p649
                            rw [c640] at p675
                            have p676 := p650 _ d2
                            clear p650
                            rw [c641] at p676
                            have p677 := p651 _ d2
                            clear p651
                            rw [c642] at p677
                            have p678 := p652 _ d2
                            clear p652
                            rw [c643] at p678
                            obtain ⟨v679, c680⟩ : ∃ v, I629 a0 13 = v := ⟨_, rfl⟩
                            rw [c680] at p653
                            rw [c63] at p653
                            obtain ⟨v681, c682⟩ : ∃ v, I629 a0 9 = v := ⟨_, rfl⟩
                            have b683 := iv15_9 hS636.1 ta0 c682
                            rw [c682] at p654
                            rw [c682] at p655
                            obtain ⟨v684, c685⟩ : ∃ v, I629 a0 10 = v := ⟨_, rfl⟩
                            have b686 := iv15_10 hS636.1 ta0 c685
                            rw [c685] at p656
                            obtain ⟨v687, c688⟩ : ∃ v, I629 a0 11 = v := ⟨_, rfl⟩
                            rw [c688] at p657
                            obtain ⟨y689, c690⟩ : ∃ v, L631 a0 15 = v := ⟨_, rfl⟩
                            rw [c690] at p658
                            obtain ⟨v691, c692⟩ : ∃ v, I629 a0 12 = v := ⟨_, rfl⟩
                            rw [c692] at p659
                            obtain ⟨v693, c694⟩ : ∃ v, I629 a0 8 = v := ⟨_, rfl⟩
                            have b695 := iv15_8 hS636.1 ta0 c694
                            rw [c694] at p660
                            refine tr_goto 186 dX12_readLine_98 (by decide) ?_
                            obtain ⟨v696, c697⟩ : ∃ v, I629 a0 14 = v := ⟨_, rfl⟩
                            exact tr_vret hZ dX12_readLine_186 rfl (by decide) (by decide) ⟨rfl, rfl, rfl, rfl, rfl, hS636, (Or.inl ⟨(by first | done | omega), (fun q0 z0 => by obtain rfl := Option.some.inj ((d2).symm.trans z0); (try rw [c637]); first | done | omega), (fun q0 z0 => by obtain rfl := Option.some.inj ((d2).symm.trans z0); (try rw [c638]); first | done | omega), (fun q0 z0 => by obtain rfl := Option.some.inj ((d2).symm.trans z0); (try rw [c671]); first | done | omega), (fun q0 z0 => by obtain rfl := Option.some.inj ((d2).symm.trans z0); (try rw [c639]); first | done | omega), (fun q0 z0 => by obtain rfl := Option.some.inj ((d2).symm.trans z0); (try rw [c640]); first | done | omega), (fun q0 z0 => by obtain rfl := Option.some.inj ((d2).symm.trans z0); (try rw [c641]); first | done | omega), (fun q0 z0 => by obtain rfl := Option.some.inj ((d2).symm.trans z0); (try rw [c642]); first | done | omega), (fun q0 z0 => by obtain rfl := Option.some.inj ((d2).symm.trans z0); (try rw [c643]); first | done | omega), (by (try rw [c680]); (try rw [c63]); first | done | omega), (by (try rw [c682]); first | done | omega), (by (try rw [c682]); first | done | omega), (by (try rw [c685]); first | done | omega), (by (try rw [c688]); first | done | omega), (by (try rw [c690]); first | done | assumption), (by (try rw [c692]); first | done | assumption), (by (try rw [c694]); first | done | assumption), hL667, (fun b hb => (Option.some.inj (d2.symm.trans hb)) ▸ (rp662 _ d2)), trivial⟩), trivial⟩
                          · skip
                            obtain ⟨v698, c699⟩ : ∃ v, I629 a0 9 = v := ⟨_, rfl⟩
                            have b700 := iv15_9 hS636.1 ta0 c699
                            rw [c699] at p664
                            obtain ⟨v701, c702⟩ : ∃ v, I629 a0 13 = v := ⟨_, rfl⟩
                            rw [c702] at p665
                            obtain ⟨v703, c704⟩ : ∃ v, I629 a0 14 = v := ⟨_, rfl⟩
                            rw [c704] at p666
                            refine tr_goto 186 dX12_readLine_98 (by decide) ?_
                            obtain ⟨v705, c706⟩ : ∃ v, I629 a1 2 = v := ⟨_, rfl⟩
                            have b707 := iv14_2 hS636.1 ta1 c706
                            obtain ⟨v708, c709⟩ : ∃ v, I629 a0 10 = v := ⟨_, rfl⟩
                            have b710 := iv15_10 hS636.1 ta0 c709
                            obtain ⟨v711, c712⟩ : ∃ v, I629 a0 11 = v := ⟨_, rfl⟩
                            obtain ⟨y713, c714⟩ : ∃ v, L631 a0 15 = v := ⟨_, rfl⟩
                            obtain ⟨v715, c716⟩ : ∃ v, I629 a0 12 = v := ⟨_, rfl⟩
                            obtain ⟨v717, c718⟩ : ∃ v, I629 a0 8 = v := ⟨_, rfl⟩
                            have b719 := iv15_8 hS636.1 ta0 c718
                            exact tr_vret hZ dX12_readLine_186 rfl (by decide) (by decide) ⟨rfl, rfl, rfl, rfl, rfl, hS636, (Or.inr (⟨(by first | done | omega), (by (try rw [c699]); first | done | omega), (by (try rw [c702]); first | done | omega), (by (try rw [c704]); first | done | omega), trivial⟩)), trivial⟩
                      · skip
                        refine q_if_eq 101 dX12_readLine_90 (by decide) (fun h720 => ?_) (fun h720 => ?_)
                        · skip
                          refine tr_aload_n dX12_readLine_101 rfl ?_
                          refine tr_ldcS dX12_readLine_102 ld12_176 ?_
                          refine q_callVi hE (M' := mX12_isWord) (as := [_]) dX12_readLine_104 lk12_138 inX12_isWord seX12_isWord myX12_isWord (by decide) ⟨by decide, by decide⟩ rfl (kR15 hS0.1 ta0) (Nat.le_of_ble_eq_true rfl) rfl rfl (by decide) (by decide) (fk_X12_isWord hS0.1 (gB) (gs) ta0 (by decide) (by (try rw [c4]); first | done | omega) (by (try rw [c16]); first | done | assumption)) ?_
                          rintro v726 cn' K' N' I721 R722 L723 ⟨rfl, rfl, rfl, rfl, rfl, rfl, h727, dj728, -⟩
                          (try rw [pk_6] at dj728)
                          rcases dj728 with ⟨p729, p730, p731, -⟩ | ⟨p732, p733, -⟩
                          · skip
                            have sr734 : srt gB gs = 5 := srt_5 (by omega) (by omega)
                            refine q_if_eq 117 dX12_readLine_107 (by decide) (fun h735 => ?_) (fun h735 => ?_)
                            · skip
                              exfalso; omega
                            · skip
                              refine tr_aload_n dX12_readLine_110 rfl ?_
                              refine q_callVv hE (M' := mX12_readCheese) (as := []) dX12_readLine_111 lk12_233 inX12_readCheese seX12_readCheese myX12_readCheese (by decide) ⟨by decide, by decide⟩ rfl (kR15 hS0.1 ta0) (Nat.le_of_ble_eq_true rfl) rfl rfl (by decide) (by decide) (fk_X12_readCheese hS0.1 (gB) (gs) (gQ) ta0 (TxA.kp hT hS0 ta0 rfl rfl rfl (by decide +kernel) (by decide +kernel)) (fun b hb => (Option.some.inj (d2.symm.trans hb)) ▸ hM0) (by (try rw [c4]); first | done | omega) (by (try rw [c4]); first | done | omega) (by (try rw [c9]); first | done | omega) (by (try rw [c13]); first | done | omega) (by (try rw [c16]); first | done | assumption) (by (try rw [c19]); first | done | assumption) (by (try rw [c22]); first | done | assumption) (by (try rw [c26]); first | done | omega) (fun q0 z0 => by obtain rfl := Option.some.inj ((d2).symm.trans z0); (try rw [c30]); first | done | omega) (fun q0 z0 => by obtain rfl := Option.some.inj ((d2).symm.trans z0); (try rw [c34]); first | done | omega) (fun q0 z0 => by obtain rfl := Option.some.inj ((d2).symm.trans z0); (try rw [c38]); first | done | omega) (fun q0 z0 => by obtain rfl := Option.some.inj ((d2).symm.trans z0); (try rw [c42]); first | done | omega) (fun q0 z0 => by obtain rfl := Option.some.inj ((d2).symm.trans z0); (try rw [c46]); first | done | omega) (fun q0 z0 => by obtain rfl := Option.some.inj ((d2).symm.trans z0); (try rw [c50]); first | done | omega) (fun q0 z0 => by obtain rfl := Option.some.inj ((d2).symm.trans z0); (try rw [c54]); first | done | omega) (fun q0 z0 => by obtain rfl := Option.some.inj ((d2).symm.trans z0); (try rw [c58]); first | done | omega) (by first | done | assumption) (by first | done | omega) (by first | done | omega) ⟨_, d2⟩) ?_
                              rintro cn' K' N' I736 R737 L738 ⟨rfl, rfl, rfl, rfl, g739, dj742, -⟩
                              have hS743 := hS0.tr g739 (by decide +kernel) (by decide +kernel)
                              have c744 : I736 a1 0 = v29 := (g739.cell ta1 (by decide +kernel)).trans c30
                              have c745 : I736 a1 1 = v33 := (g739.cell ta1 (by decide +kernel)).trans c34
                              have c746 : I736 a1 2 = v37 := (g739.cell ta1 (by decide +kernel)).trans c38
                              have c747 : I736 a1 4 = v45 := (g739.cell ta1 (by decide +kernel)).trans c46
                              have c748 : I736 a1 5 = v49 := (g739.cell ta1 (by decide +kernel)).trans c50
                              have c749 : I736 a1 6 = v53 := (g739.cell ta1 (by decide +kernel)).trans c54
                              have c750 : I736 a1 9 = v57 := (g739.cell ta1 (by decide +kernel)).trans c58
                              rcases dj742 with ⟨p751, p752, p753, p754, p755, p756, p757, p758, p759, p760, p761, p762, p763, p764, p765, p766, p767, gl768, rp769, -⟩ | ⟨p770, p771, p772, p773, -⟩
                              · skip
                                have hL774 := hL0.tr gl768 (by decide +kernel)
                                have p775 := p752 _ d2
                                clear p752
                                rw [c744] at p775
                                have p776 := p753 _ d2
                                clear p753
                                rw [c745] at p776
                                have p777 := p754 _ d2
                                clear p754
                                rw [c746] at p777
                                obtain ⟨v778, c779⟩ : ∃ v, I736 a1 3 = v := ⟨_, rfl⟩
                                have b780 := iv14_3 hS743.1 ta1 c779
                                have p781 := p755 _ d2
                                clear p755
                                rw [c779] at p781
                                have p782 := p756 _ d2
                                clear p756
                                rw [c747] at p782
                                have p783 := p757 _ d2
                                clear p757
                                rw [c748] at p783
                                have p784 := p758 _ d2
                                clear p758
                                rw [c749] at p784
                                have p785 := p759 _ d2
                                clear p759
                                rw [c750] at p785
                                obtain ⟨v786, c787⟩ : ∃ v, I736 a0 13 = v := ⟨_, rfl⟩
                                rw [c787] at p760
                                rw [c63] at p760
                                obtain ⟨v788, c789⟩ : ∃ v, I736 a0 9 = v := ⟨_, rfl⟩
                                have b790 := iv15_9 hS743.1 ta0 c789
                                rw [c789] at p761
                                rw [c789] at p762
                                obtain ⟨v791, c792⟩ : ∃ v, I736 a0 10 = v := ⟨_, rfl⟩
                                have b793 := iv15_10 hS743.1 ta0 c792
                                rw [c792] at p763
                                obtain ⟨v794, c795⟩ : ∃ v, I736 a0 11 = v := ⟨_, rfl⟩
                                rw [c795] at p764
                                obtain ⟨y796, c797⟩ : ∃ v, L738 a0 15 = v := ⟨_, rfl⟩
                                rw [c797] at p765
                                obtain ⟨v798, c799⟩ : ∃ v, I736 a0 12 = v := ⟨_, rfl⟩
                                rw [c799] at p766
                                obtain ⟨v800, c801⟩ : ∃ v, I736 a0 8 = v := ⟨_, rfl⟩
                                have b802 := iv15_8 hS743.1 ta0 c801
                                rw [c801] at p767
                                refine tr_goto 186 dX12_readLine_114 (by decide) ?_
                                obtain ⟨v803, c804⟩ : ∃ v, I736 a0 14 = v := ⟨_, rfl⟩
                                exact tr_vret hZ dX12_readLine_186 rfl (by decide) (by decide) ⟨rfl, rfl, rfl, rfl, rfl, hS743, (Or.inl ⟨(by first | done | omega), (fun q0 z0 => by obtain rfl := Option.some.inj ((d2).symm.trans z0); (try rw [c744]); first | done | omega), (fun q0 z0 => by obtain rfl := Option.some.inj ((d2).symm.trans z0); (try rw [c745]); first | done | omega), (fun q0 z0 => by obtain rfl := Option.some.inj ((d2).symm.trans z0); (try rw [c746]); first | done | omega), (fun q0 z0 => by obtain rfl := Option.some.inj ((d2).symm.trans z0); (try rw [c779]); first | done | omega), (fun q0 z0 => by obtain rfl := Option.some.inj ((d2).symm.trans z0); (try rw [c747]); first | done | omega), (fun q0 z0 => by obtain rfl := Option.some.inj ((d2).symm.trans z0); (try rw [c748]); first | done | omega), (fun q0 z0 => by obtain rfl := Option.some.inj ((d2).symm.trans z0); (try rw [c749]); first | done | omega), (fun q0 z0 => by obtain rfl := Option.some.inj ((d2).symm.trans z0); (try rw [c750]); first | done | omega), (by (try rw [c787]); (try rw [c63]); first | done | omega), (by (try rw [c789]); first | done | omega), (by (try rw [c789]); first | done | omega), (by (try rw [c792]); first | done | omega), (by (try rw [c795]); first | done | omega), (by (try rw [c797]); first | done | assumption), (by (try rw [c799]); first | done | assumption), (by (try rw [c801]); first | done | assumption), hL774, (fun b hb => (Option.some.inj (d2.symm.trans hb)) ▸ (rp769 _ d2)), trivial⟩), trivial⟩
                              · skip
                                obtain ⟨v805, c806⟩ : ∃ v, I736 a0 9 = v := ⟨_, rfl⟩
                                have b807 := iv15_9 hS743.1 ta0 c806
                                rw [c806] at p771
                                obtain ⟨v808, c809⟩ : ∃ v, I736 a0 13 = v := ⟨_, rfl⟩
                                rw [c809] at p772
                                obtain ⟨v810, c811⟩ : ∃ v, I736 a0 14 = v := ⟨_, rfl⟩
                                rw [c811] at p773
                                refine tr_goto 186 dX12_readLine_114 (by decide) ?_
                                obtain ⟨v812, c813⟩ : ∃ v, I736 a1 3 = v := ⟨_, rfl⟩
                                have b814 := iv14_3 hS743.1 ta1 c813
                                obtain ⟨v815, c816⟩ : ∃ v, I736 a0 10 = v := ⟨_, rfl⟩
                                have b817 := iv15_10 hS743.1 ta0 c816
                                obtain ⟨v818, c819⟩ : ∃ v, I736 a0 11 = v := ⟨_, rfl⟩
                                obtain ⟨y820, c821⟩ : ∃ v, L738 a0 15 = v := ⟨_, rfl⟩
                                obtain ⟨v822, c823⟩ : ∃ v, I736 a0 12 = v := ⟨_, rfl⟩
                                obtain ⟨v824, c825⟩ : ∃ v, I736 a0 8 = v := ⟨_, rfl⟩
                                have b826 := iv15_8 hS743.1 ta0 c825
                                exact tr_vret hZ dX12_readLine_186 rfl (by decide) (by decide) ⟨rfl, rfl, rfl, rfl, rfl, hS743, (Or.inr (⟨(by first | done | omega), (by (try rw [c806]); first | done | omega), (by (try rw [c809]); first | done | omega), (by (try rw [c811]); first | done | omega), trivial⟩)), trivial⟩
                          · skip
                            refine q_if_eq 117 dX12_readLine_107 (by decide) (fun h827 => ?_) (fun h827 => ?_)
                            · skip
                              refine tr_aload_n dX12_readLine_117 rfl ?_
                              refine tr_ldcS dX12_readLine_118 ld12_178 ?_
                              refine q_callVi hE (M' := mX12_isWord) (as := [_]) dX12_readLine_120 lk12_138 inX12_isWord seX12_isWord myX12_isWord (by decide) ⟨by decide, by decide⟩ rfl (kR15 hS0.1 ta0) (Nat.le_of_ble_eq_true rfl) rfl rfl (by decide) (by decide) (fk_X12_isWord hS0.1 (gB) (gs) ta0 (by decide) (by (try rw [c4]); first | done | omega) (by (try rw [c16]); first | done | assumption)) ?_
                              rintro v833 cn' K' N' I828 R829 L830 ⟨rfl, rfl, rfl, rfl, rfl, rfl, h834, dj835, -⟩
                              (try rw [pk_0] at dj835)
                              rcases dj835 with ⟨p836, p837, p838, -⟩ | ⟨p839, p840, -⟩
                              · skip
                                have sr841 : srt gB gs = 6 := srt_6 (by omega) (by omega)
                                refine q_if_eq 133 dX12_readLine_123 (by decide) (fun h842 => ?_) (fun h842 => ?_)
                                · skip
                                  exfalso; omega
                                · skip
                                  refine tr_aload_n dX12_readLine_126 rfl ?_
                                  refine q_callVv hE (M' := mX12_readAlmanac) (as := []) dX12_readLine_127 lk12_236 inX12_readAlmanac seX12_readAlmanac myX12_readAlmanac (by decide) ⟨by decide, by decide⟩ rfl (kR15 hS0.1 ta0) (Nat.le_of_ble_eq_true rfl) rfl rfl (by decide) (by decide) (fk_X12_readAlmanac hS0.1 (gB) (gs) (gQ) ta0 (TxA.kp hT hS0 ta0 rfl rfl rfl (by decide +kernel) (by decide +kernel)) (fun b hb => (Option.some.inj (d2.symm.trans hb)) ▸ hM0) (by (try rw [c4]); first | done | omega) (by (try rw [c4]); first | done | omega) (by (try rw [c9]); first | done | omega) (by (try rw [c13]); first | done | omega) (by (try rw [c16]); first | done | assumption) (by (try rw [c19]); first | done | assumption) (by (try rw [c22]); first | done | assumption) (by (try rw [c26]); first | done | omega) (fun q0 z0 => by obtain rfl := Option.some.inj ((d2).symm.trans z0); (try rw [c30]); first | done | omega) (fun q0 z0 => by obtain rfl := Option.some.inj ((d2).symm.trans z0); (try rw [c34]); first | done | omega) (fun q0 z0 => by obtain rfl := Option.some.inj ((d2).symm.trans z0); (try rw [c38]); first | done | omega) (fun q0 z0 => by obtain rfl := Option.some.inj ((d2).symm.trans z0); (try rw [c42]); first | done | omega) (fun q0 z0 => by obtain rfl := Option.some.inj ((d2).symm.trans z0); (try rw [c46]); first | done | omega) (fun q0 z0 => by obtain rfl := Option.some.inj ((d2).symm.trans z0); (try rw [c50]); first | done | omega) (fun q0 z0 => by obtain rfl := Option.some.inj ((d2).symm.trans z0); (try rw [c54]); first | done | omega) (fun q0 z0 => by obtain rfl := Option.some.inj ((d2).symm.trans z0); (try rw [c58]); first | done | omega) (by first | done | assumption) (by first | done | omega) (by first | done | omega) ⟨_, d2⟩) ?_
                                  rintro cn' K' N' I843 R844 L845 ⟨rfl, rfl, rfl, rfl, g846, dj849, -⟩
                                  have hS850 := hS0.tr g846 (by decide +kernel) (by decide +kernel)
                                  have c851 : I843 a1 0 = v29 := (g846.cell ta1 (by decide +kernel)).trans c30
                                  have c852 : I843 a1 1 = v33 := (g846.cell ta1 (by decide +kernel)).trans c34
                                  have c853 : I843 a1 2 = v37 := (g846.cell ta1 (by decide +kernel)).trans c38
                                  have c854 : I843 a1 3 = v41 := (g846.cell ta1 (by decide +kernel)).trans c42
                                  have c855 : I843 a1 4 = v45 := (g846.cell ta1 (by decide +kernel)).trans c46
                                  have c856 : I843 a1 5 = v49 := (g846.cell ta1 (by decide +kernel)).trans c50
                                  have c857 : I843 a1 6 = v53 := (g846.cell ta1 (by decide +kernel)).trans c54
                                  rcases dj849 with ⟨p858, p859, p860, p861, p862, p863, p864, p865, p866, p867, p868, p869, p870, p871, p872, p873, p874, gl875, rp876, -⟩ | ⟨p877, p878, p879, p880, -⟩
                                  · skip
                                    have hL881 := hL0.tr gl875 (by decide +kernel)
                                    have p882 := p859 _ d2
                                    clear p859
                                    rw [c851] at p882
                                    have p883 := p860 _ d2
                                    clear p860
                                    rw [c852] at p883
                                    have p884 := p861 _ d2
                                    clear p861
                                    rw [c853] at p884
                                    have p885 := p862 _ d2
                                    clear p862
                                    rw [c854] at p885
                                    have p886 := p863 _ d2
                                    clear p863
                                    rw [c855] at p886
                                    have p887 := p864 _ d2
                                    clear p864
                                    rw [c856] at p887
                                    have p888 := p865 _ d2
                                    clear p865
                                    rw [c857] at p888
                                    obtain ⟨v889, c890⟩ : ∃ v, I843 a1 9 = v := ⟨_, rfl⟩
                                    have b891 := iv14_9 hS850.1 ta1 c890
                                    have p892 := p866 _ d2
                                    clear p866
                                    rw [c890] at p892
                                    obtain ⟨v893, c894⟩ : ∃ v, I843 a0 13 = v := ⟨_, rfl⟩
                                    rw [c894] at p867
                                    rw [c63] at p867
                                    obtain ⟨v895, c896⟩ : ∃ v, I843 a0 9 = v := ⟨_, rfl⟩
                                    have b897 := iv15_9 hS850.1 ta0 c896
                                    rw [c896] at p868
                                    rw [c896] at p869
                                    obtain ⟨v898, c899⟩ : ∃ v, I843 a0 10 = v := ⟨_, rfl⟩
                                    have b900 := iv15_10 hS850.1 ta0 c899
                                    rw [c899] at p870
                                    obtain ⟨v901, c902⟩ : ∃ v, I843 a0 11 = v := ⟨_, rfl⟩
                                    rw [c902] at p871
                                    obtain ⟨y903, c904⟩ : ∃ v, L845 a0 15 = v := ⟨_, rfl⟩
                                    rw [c904] at p872
                                    obtain ⟨v905, c906⟩ : ∃ v, I843 a0 12 = v := ⟨_, rfl⟩
                                    rw [c906] at p873
                                    obtain ⟨v907, c908⟩ : ∃ v, I843 a0 8 = v := ⟨_, rfl⟩
                                    have b909 := iv15_8 hS850.1 ta0 c908
                                    rw [c908] at p874
                                    refine tr_goto 186 dX12_readLine_130 (by decide) ?_
                                    obtain ⟨v910, c911⟩ : ∃ v, I843 a0 14 = v := ⟨_, rfl⟩
                                    exact tr_vret hZ dX12_readLine_186 rfl (by decide) (by decide) ⟨rfl, rfl, rfl, rfl, rfl, hS850, (Or.inl ⟨(by first | done | omega), (fun q0 z0 => by obtain rfl := Option.some.inj ((d2).symm.trans z0); (try rw [c851]); first | done | omega), (fun q0 z0 => by obtain rfl := Option.some.inj ((d2).symm.trans z0); (try rw [c852]); first | done | omega), (fun q0 z0 => by obtain rfl := Option.some.inj ((d2).symm.trans z0); (try rw [c853]); first | done | omega), (fun q0 z0 => by obtain rfl := Option.some.inj ((d2).symm.trans z0); (try rw [c854]); first | done | omega), (fun q0 z0 => by obtain rfl := Option.some.inj ((d2).symm.trans z0); (try rw [c855]); first | done | omega), (fun q0 z0 => by obtain rfl := Option.some.inj ((d2).symm.trans z0); (try rw [c856]); first | done | omega), (fun q0 z0 => by obtain rfl := Option.some.inj ((d2).symm.trans z0); (try rw [c857]); first | done | omega), (fun q0 z0 => by obtain rfl := Option.some.inj ((d2).symm.trans z0); (try rw [c890]); first | done | omega), (by (try rw [c894]); (try rw [c63]); first | done | omega), (by (try rw [c896]); first | done | omega), (by (try rw [c896]); first | done | omega), (by (try rw [c899]); first | done | omega), (by (try rw [c902]); first | done | omega), (by (try rw [c904]); first | done | assumption), (by (try rw [c906]); first | done | assumption), (by (try rw [c908]); first | done | assumption), hL881, (fun b hb => (Option.some.inj (d2.symm.trans hb)) ▸ (rp876 _ d2)), trivial⟩), trivial⟩
                                  · skip
                                    obtain ⟨v912, c913⟩ : ∃ v, I843 a0 9 = v := ⟨_, rfl⟩
                                    have b914 := iv15_9 hS850.1 ta0 c913
                                    rw [c913] at p878
                                    obtain ⟨v915, c916⟩ : ∃ v, I843 a0 13 = v := ⟨_, rfl⟩
                                    rw [c916] at p879
                                    obtain ⟨v917, c918⟩ : ∃ v, I843 a0 14 = v := ⟨_, rfl⟩
                                    rw [c918] at p880
                                    refine tr_goto 186 dX12_readLine_130 (by decide) ?_
                                    obtain ⟨v919, c920⟩ : ∃ v, I843 a1 9 = v := ⟨_, rfl⟩
                                    have b921 := iv14_9 hS850.1 ta1 c920
                                    obtain ⟨v922, c923⟩ : ∃ v, I843 a0 10 = v := ⟨_, rfl⟩
                                    have b924 := iv15_10 hS850.1 ta0 c923
                                    obtain ⟨v925, c926⟩ : ∃ v, I843 a0 11 = v := ⟨_, rfl⟩
                                    obtain ⟨y927, c928⟩ : ∃ v, L845 a0 15 = v := ⟨_, rfl⟩
                                    obtain ⟨v929, c930⟩ : ∃ v, I843 a0 12 = v := ⟨_, rfl⟩
                                    obtain ⟨v931, c932⟩ : ∃ v, I843 a0 8 = v := ⟨_, rfl⟩
                                    have b933 := iv15_8 hS850.1 ta0 c932
                                    exact tr_vret hZ dX12_readLine_186 rfl (by decide) (by decide) ⟨rfl, rfl, rfl, rfl, rfl, hS850, (Or.inr (⟨(by first | done | omega), (by (try rw [c913]); first | done | omega), (by (try rw [c916]); first | done | omega), (by (try rw [c918]); first | done | omega), trivial⟩)), trivial⟩
                              · skip
                                refine q_if_eq 133 dX12_readLine_123 (by decide) (fun h934 => ?_) (fun h934 => ?_)
                                · skip
                                  refine tr_aload_n dX12_readLine_133 rfl ?_
                                  refine tr_ldcS dX12_readLine_134 ld12_180 ?_
                                  refine q_callVi hE (M' := mX12_isWord) (as := [_]) dX12_readLine_136 lk12_138 inX12_isWord seX12_isWord myX12_isWord (by decide) ⟨by decide, by decide⟩ rfl (kR15 hS0.1 ta0) (Nat.le_of_ble_eq_true rfl) rfl rfl (by decide) (by decide) (fk_X12_isWord hS0.1 (gB) (gs) ta0 (by decide) (by (try rw [c4]); first | done | omega) (by (try rw [c16]); first | done | assumption)) ?_
                                  rintro v940 cn' K' N' I935 R936 L937 ⟨rfl, rfl, rfl, rfl, rfl, rfl, h941, dj942, -⟩
                                  (try rw [pk_26] at dj942)
                                  rcases dj942 with ⟨p943, p944, p945, -⟩ | ⟨p946, p947, -⟩
                                  · skip
                                    have sr948 : srt gB gs = 7 := srt_7 (by omega) (by omega)
                                    refine q_if_eq 149 dX12_readLine_139 (by decide) (fun h949 => ?_) (fun h949 => ?_)
                                    · skip
                                      exfalso; omega
                                    · skip
                                      refine tr_aload_n dX12_readLine_142 rfl ?_
                                      refine q_callVv hE (M' := mX12_readTurner) (as := []) dX12_readLine_143 lk12_239 inX12_readTurner seX12_readTurner myX12_readTurner (by decide) ⟨by decide, by decide⟩ rfl (kR15 hS0.1 ta0) (Nat.le_of_ble_eq_true rfl) rfl rfl (by decide) (by decide) (fk_X12_readTurner hS0.1 (gB) (gs) (gQ) ta0 (TxA.kp hT hS0 ta0 rfl rfl rfl (by decide +kernel) (by decide +kernel)) (fun b hb => (Option.some.inj (d2.symm.trans hb)) ▸ hM0) (by (try rw [c4]); first | done | omega) (by (try rw [c4]); first | done | omega) (by (try rw [c9]); first | done | omega) (by (try rw [c13]); first | done | omega) (by (try rw [c16]); first | done | assumption) (by (try rw [c19]); first | done | assumption) (by (try rw [c22]); first | done | assumption) (by (try rw [c26]); first | done | omega) (fun q0 z0 => by obtain rfl := Option.some.inj ((d2).symm.trans z0); (try rw [c30]); first | done | omega) (fun q0 z0 => by obtain rfl := Option.some.inj ((d2).symm.trans z0); (try rw [c34]); first | done | omega) (fun q0 z0 => by obtain rfl := Option.some.inj ((d2).symm.trans z0); (try rw [c38]); first | done | omega) (fun q0 z0 => by obtain rfl := Option.some.inj ((d2).symm.trans z0); (try rw [c42]); first | done | omega) (fun q0 z0 => by obtain rfl := Option.some.inj ((d2).symm.trans z0); (try rw [c46]); first | done | omega) (fun q0 z0 => by obtain rfl := Option.some.inj ((d2).symm.trans z0); (try rw [c50]); first | done | omega) (fun q0 z0 => by obtain rfl := Option.some.inj ((d2).symm.trans z0); (try rw [c54]); first | done | omega) (fun q0 z0 => by obtain rfl := Option.some.inj ((d2).symm.trans z0); (try rw [c58]); first | done | omega) (by first | done | assumption) (by first | done | omega) (by first | done | omega) ⟨_, d2⟩) ?_
                                      rintro cn' K' N' I950 R951 L952 ⟨rfl, rfl, rfl, rfl, g953, dj956, -⟩
                                      have hS957 := hS0.tr g953 (by decide +kernel) (by decide +kernel)
                                      have c958 : I950 a1 0 = v29 := (g953.cell ta1 (by decide +kernel)).trans c30
                                      have c959 : I950 a1 1 = v33 := (g953.cell ta1 (by decide +kernel)).trans c34
                                      have c960 : I950 a1 2 = v37 := (g953.cell ta1 (by decide +kernel)).trans c38
                                      have c961 : I950 a1 3 = v41 := (g953.cell ta1 (by decide +kernel)).trans c42
                                      have c962 : I950 a1 5 = v49 := (g953.cell ta1 (by decide +kernel)).trans c50
                                      have c963 : I950 a1 6 = v53 := (g953.cell ta1 (by decide +kernel)).trans c54
                                      have c964 : I950 a1 9 = v57 := (g953.cell ta1 (by decide +kernel)).trans c58
                                      rcases dj956 with ⟨p965, p966, p967, p968, p969, p970, p971, p972, p973, p974, p975, p976, p977, p978, p979, p980, p981, gl982, rp983, -⟩ | ⟨p984, p985, p986, p987, -⟩
                                      · skip
                                        have hL988 := hL0.tr gl982 (by decide +kernel)
                                        have p989 := p966 _ d2
                                        clear p966
                                        rw [c958] at p989
                                        have p990 := p967 _ d2
                                        clear p967
                                        rw [c959] at p990
                                        have p991 := p968 _ d2
                                        clear p968
                                        rw [c960] at p991
                                        have p992 := p969 _ d2
                                        clear p969
                                        rw [c961] at p992
                                        obtain ⟨v993, c994⟩ : ∃ v, I950 a1 4 = v := ⟨_, rfl⟩
                                        have b995 := iv14_4 hS957.1 ta1 c994
                                        have p996 := p970 _ d2
                                        clear p970
                                        rw [c994] at p996
                                        have p997 := p971 _ d2
                                        clear p971
                                        rw [c962] at p997
                                        have p998 := p972 _ d2
                                        clear p972
                                        rw [c963] at p998
                                        have p999 := p973 _ d2
                                        clear p973
                                        rw [c964] at p999
                                        obtain ⟨v1000, c1001⟩ : ∃ v, I950 a0 13 = v := ⟨_, rfl⟩
                                        rw [c1001] at p974
                                        rw [c63] at p974
                                        obtain ⟨v1002, c1003⟩ : ∃ v, I950 a0 9 = v := ⟨_, rfl⟩
                                        have b1004 := iv15_9 hS957.1 ta0 c1003
                                        rw [c1003] at p975
                                        rw [c1003] at p976
                                        obtain ⟨v1005, c1006⟩ : ∃ v, I950 a0 10 = v := ⟨_, rfl⟩
                                        have b1007 := iv15_10 hS957.1 ta0 c1006
                                        rw [c1006] at p977
                                        obtain ⟨v1008, c1009⟩ : ∃ v, I950 a0 11 = v := ⟨_, rfl⟩
                                        rw [c1009] at p978
                                        obtain ⟨y1010, c1011⟩ : ∃ v, L952 a0 15 = v := ⟨_, rfl⟩
                                        rw [c1011] at p979
                                        obtain ⟨v1012, c1013⟩ : ∃ v, I950 a0 12 = v := ⟨_, rfl⟩
                                        rw [c1013] at p980
                                        obtain ⟨v1014, c1015⟩ : ∃ v, I950 a0 8 = v := ⟨_, rfl⟩
                                        have b1016 := iv15_8 hS957.1 ta0 c1015
                                        rw [c1015] at p981
                                        refine tr_goto 186 dX12_readLine_146 (by decide) ?_
                                        obtain ⟨v1017, c1018⟩ : ∃ v, I950 a0 14 = v := ⟨_, rfl⟩
                                        exact tr_vret hZ dX12_readLine_186 rfl (by decide) (by decide) ⟨rfl, rfl, rfl, rfl, rfl, hS957, (Or.inl ⟨(by first | done | omega), (fun q0 z0 => by obtain rfl := Option.some.inj ((d2).symm.trans z0); (try rw [c958]); first | done | omega), (fun q0 z0 => by obtain rfl := Option.some.inj ((d2).symm.trans z0); (try rw [c959]); first | done | omega), (fun q0 z0 => by obtain rfl := Option.some.inj ((d2).symm.trans z0); (try rw [c960]); first | done | omega), (fun q0 z0 => by obtain rfl := Option.some.inj ((d2).symm.trans z0); (try rw [c961]); first | done | omega), (fun q0 z0 => by obtain rfl := Option.some.inj ((d2).symm.trans z0); (try rw [c994]); first | done | omega), (fun q0 z0 => by obtain rfl := Option.some.inj ((d2).symm.trans z0); (try rw [c962]); first | done | omega), (fun q0 z0 => by obtain rfl := Option.some.inj ((d2).symm.trans z0); (try rw [c963]); first | done | omega), (fun q0 z0 => by obtain rfl := Option.some.inj ((d2).symm.trans z0); (try rw [c964]); first | done | omega), (by (try rw [c1001]); (try rw [c63]); first | done | omega), (by (try rw [c1003]); first | done | omega), (by (try rw [c1003]); first | done | omega), (by (try rw [c1006]); first | done | omega), (by (try rw [c1009]); first | done | omega), (by (try rw [c1011]); first | done | assumption), (by (try rw [c1013]); first | done | assumption), (by (try rw [c1015]); first | done | assumption), hL988, (fun b hb => (Option.some.inj (d2.symm.trans hb)) ▸ (rp983 _ d2)), trivial⟩), trivial⟩
                                      · skip
                                        obtain ⟨v1019, c1020⟩ : ∃ v, I950 a0 9 = v := ⟨_, rfl⟩
                                        have b1021 := iv15_9 hS957.1 ta0 c1020
                                        rw [c1020] at p985
                                        obtain ⟨v1022, c1023⟩ : ∃ v, I950 a0 13 = v := ⟨_, rfl⟩
                                        rw [c1023] at p986
                                        obtain ⟨v1024, c1025⟩ : ∃ v, I950 a0 14 = v := ⟨_, rfl⟩
                                        rw [c1025] at p987
                                        refine tr_goto 186 dX12_readLine_146 (by decide) ?_
                                        obtain ⟨v1026, c1027⟩ : ∃ v, I950 a1 4 = v := ⟨_, rfl⟩
                                        have b1028 := iv14_4 hS957.1 ta1 c1027
                                        obtain ⟨v1029, c1030⟩ : ∃ v, I950 a0 10 = v := ⟨_, rfl⟩
                                        have b1031 := iv15_10 hS957.1 ta0 c1030
                                        obtain ⟨v1032, c1033⟩ : ∃ v, I950 a0 11 = v := ⟨_, rfl⟩
                                        obtain ⟨y1034, c1035⟩ : ∃ v, L952 a0 15 = v := ⟨_, rfl⟩
                                        obtain ⟨v1036, c1037⟩ : ∃ v, I950 a0 12 = v := ⟨_, rfl⟩
                                        obtain ⟨v1038, c1039⟩ : ∃ v, I950 a0 8 = v := ⟨_, rfl⟩
                                        have b1040 := iv15_8 hS957.1 ta0 c1039
                                        exact tr_vret hZ dX12_readLine_186 rfl (by decide) (by decide) ⟨rfl, rfl, rfl, rfl, rfl, hS957, (Or.inr (⟨(by first | done | omega), (by (try rw [c1020]); first | done | omega), (by (try rw [c1023]); first | done | omega), (by (try rw [c1025]); first | done | omega), trivial⟩)), trivial⟩
                                  · skip
                                    refine q_if_eq 149 dX12_readLine_139 (by decide) (fun h1041 => ?_) (fun h1041 => ?_)
                                    · skip
                                      refine tr_aload_n dX12_readLine_149 rfl ?_
                                      refine tr_ldcS dX12_readLine_150 ld12_182 ?_
                                      refine q_callVi hE (M' := mX12_isWord) (as := [_]) dX12_readLine_152 lk12_138 inX12_isWord seX12_isWord myX12_isWord (by decide) ⟨by decide, by decide⟩ rfl (kR15 hS0.1 ta0) (Nat.le_of_ble_eq_true rfl) rfl rfl (by decide) (by decide) (fk_X12_isWord hS0.1 (gB) (gs) ta0 (by decide) (by (try rw [c4]); first | done | omega) (by (try rw [c16]); first | done | assumption)) ?_
                                      rintro v1047 cn' K' N' I1042 R1043 L1044 ⟨rfl, rfl, rfl, rfl, rfl, rfl, h1048, dj1049, -⟩
                                      (try rw [pk_5] at dj1049)
                                      rcases dj1049 with ⟨p1050, p1051, p1052, -⟩ | ⟨p1053, p1054, -⟩
                                      · skip
                                        have sr1055 : srt gB gs = 8 := srt_8 (by omega) (by omega)
                                        refine q_if_eq 165 dX12_readLine_155 (by decide) (fun h1056 => ?_) (fun h1056 => ?_)
                                        · skip
                                          exfalso; omega
                                        · skip
                                          refine tr_aload_n dX12_readLine_158 rfl ?_
                                          refine q_callVv hE (M' := mX12_readCall) (as := []) dX12_readLine_159 lk12_242 inX12_readCall seX12_readCall myX12_readCall (by decide) ⟨by decide, by decide⟩ rfl (kR15 hS0.1 ta0) (Nat.le_of_ble_eq_true rfl) rfl rfl (by decide) (by decide) (fk_X12_readCall hS0.1 (gB) (gs) (gQ) ta0 (TxA.kp hT hS0 ta0 rfl rfl rfl (by decide +kernel) (by decide +kernel)) (fun b hb => (Option.some.inj (d2.symm.trans hb)) ▸ hM0) (by (try rw [c4]); first | done | omega) (by (try rw [c4]); first | done | omega) (by (try rw [c9]); first | done | omega) (by (try rw [c13]); first | done | omega) (by (try rw [c16]); first | done | assumption) (by (try rw [c19]); first | done | assumption) (by (try rw [c22]); first | done | assumption) (by (try rw [c26]); first | done | omega) (fun q0 z0 => by obtain rfl := Option.some.inj ((d2).symm.trans z0); (try rw [c30]); first | done | omega) (fun q0 z0 => by obtain rfl := Option.some.inj ((d2).symm.trans z0); (try rw [c34]); first | done | omega) (fun q0 z0 => by obtain rfl := Option.some.inj ((d2).symm.trans z0); (try rw [c38]); first | done | omega) (fun q0 z0 => by obtain rfl := Option.some.inj ((d2).symm.trans z0); (try rw [c42]); first | done | omega) (fun q0 z0 => by obtain rfl := Option.some.inj ((d2).symm.trans z0); (try rw [c46]); first | done | omega) (fun q0 z0 => by obtain rfl := Option.some.inj ((d2).symm.trans z0); (try rw [c50]); first | done | omega) (fun q0 z0 => by obtain rfl := Option.some.inj ((d2).symm.trans z0); (try rw [c54]); first | done | omega) (fun q0 z0 => by obtain rfl := Option.some.inj ((d2).symm.trans z0); (try rw [c58]); first | done | omega) (by first | done | assumption) (by first | done | omega) (by first | done | omega) ⟨_, d2⟩) ?_
                                          rintro cn' K' N' I1057 R1058 L1059 ⟨rfl, rfl, rfl, rfl, g1060, dj1063, -⟩
                                          have hS1064 := hS0.tr g1060 (by decide +kernel) (by decide +kernel)
                                          have c1065 : I1057 a1 0 = v29 := (g1060.cell ta1 (by decide +kernel)).trans c30
                                          have c1066 : I1057 a1 1 = v33 := (g1060.cell ta1 (by decide +kernel)).trans c34
                                          have c1067 : I1057 a1 2 = v37 := (g1060.cell ta1 (by decide +kernel)).trans c38
                                          have c1068 : I1057 a1 3 = v41 := (g1060.cell ta1 (by decide +kernel)).trans c42
                                          have c1069 : I1057 a1 4 = v45 := (g1060.cell ta1 (by decide +kernel)).trans c46
                                          have c1070 : I1057 a1 6 = v53 := (g1060.cell ta1 (by decide +kernel)).trans c54
                                          have c1071 : I1057 a1 9 = v57 := (g1060.cell ta1 (by decide +kernel)).trans c58
                                          rcases dj1063 with ⟨p1072, p1073, p1074, p1075, p1076, p1077, p1078, p1079, p1080, p1081, p1082, p1083, p1084, p1085, p1086, p1087, p1088, gl1089, rp1090, -⟩ | ⟨p1091, p1092, p1093, p1094, -⟩
                                          · skip
                                            have hL1095 := hL0.tr gl1089 (by decide +kernel)
                                            have p1096 := p1073 _ d2
                                            clear p1073
                                            rw [c1065] at p1096
                                            have p1097 := p1074 _ d2
                                            clear p1074
                                            rw [c1066] at p1097
                                            have p1098 := p1075 _ d2
                                            clear p1075
                                            rw [c1067] at p1098
                                            have p1099 := p1076 _ d2
                                            clear p1076
                                            rw [c1068] at p1099
                                            have p1100 := p1077 _ d2
                                            clear p1077
                                            rw [c1069] at p1100
                                            obtain ⟨v1101, c1102⟩ : ∃ v, I1057 a1 5 = v := ⟨_, rfl⟩
                                            have b1103 := iv14_5 hS1064.1 ta1 c1102
                                            have p1104 := p1078 _ d2
                                            clear p1078
                                            rw [c1102] at p1104
                                            have p1105 := p1079 _ d2
                                            clear p1079
                                            rw [c1070] at p1105
                                            have p1106 := p1080 _ d2
                                            clear p1080
                                            rw [c1071] at p1106
                                            obtain ⟨v1107, c1108⟩ : ∃ v, I1057 a0 13 = v := ⟨_, rfl⟩
                                            rw [c1108] at p1081
                                            rw [c63] at p1081
                                            obtain ⟨v1109, c1110⟩ : ∃ v, I1057 a0 9 = v := ⟨_, rfl⟩
                                            have b1111 := iv15_9 hS1064.1 ta0 c1110
                                            rw [c1110] at p1082
                                            rw [c1110] at p1083
                                            obtain ⟨v1112, c1113⟩ : ∃ v, I1057 a0 10 = v := ⟨_, rfl⟩
                                            have b1114 := iv15_10 hS1064.1 ta0 c1113
                                            rw [c1113] at p1084
                                            obtain ⟨v1115, c1116⟩ : ∃ v, I1057 a0 11 = v := ⟨_, rfl⟩
                                            rw [c1116] at p1085
                                            obtain ⟨y1117, c1118⟩ : ∃ v, L1059 a0 15 = v := ⟨_, rfl⟩
                                            rw [c1118] at p1086
                                            obtain ⟨v1119, c1120⟩ : ∃ v, I1057 a0 12 = v := ⟨_, rfl⟩
                                            rw [c1120] at p1087
                                            obtain ⟨v1121, c1122⟩ : ∃ v, I1057 a0 8 = v := ⟨_, rfl⟩
                                            have b1123 := iv15_8 hS1064.1 ta0 c1122
                                            rw [c1122] at p1088
                                            refine tr_goto 186 dX12_readLine_162 (by decide) ?_
                                            obtain ⟨v1124, c1125⟩ : ∃ v, I1057 a0 14 = v := ⟨_, rfl⟩
                                            exact tr_vret hZ dX12_readLine_186 rfl (by decide) (by decide) ⟨rfl, rfl, rfl, rfl, rfl, hS1064, (Or.inl ⟨(by first | done | omega), (fun q0 z0 => by obtain rfl := Option.some.inj ((d2).symm.trans z0); (try rw [c1065]); first | done | omega), (fun q0 z0 => by obtain rfl := Option.some.inj ((d2).symm.trans z0); (try rw [c1066]); first | done | omega), (fun q0 z0 => by obtain rfl := Option.some.inj ((d2).symm.trans z0); (try rw [c1067]); first | done | omega), (fun q0 z0 => by obtain rfl := Option.some.inj ((d2).symm.trans z0); (try rw [c1068]); first | done | omega), (fun q0 z0 => by obtain rfl := Option.some.inj ((d2).symm.trans z0); (try rw [c1069]); first | done | omega), (fun q0 z0 => by obtain rfl := Option.some.inj ((d2).symm.trans z0); (try rw [c1102]); first | done | omega), (fun q0 z0 => by obtain rfl := Option.some.inj ((d2).symm.trans z0); (try rw [c1070]); first | done | omega), (fun q0 z0 => by obtain rfl := Option.some.inj ((d2).symm.trans z0); (try rw [c1071]); first | done | omega), (by (try rw [c1108]); (try rw [c63]); first | done | omega), (by (try rw [c1110]); first | done | omega), (by (try rw [c1110]); first | done | omega), (by (try rw [c1113]); first | done | omega), (by (try rw [c1116]); first | done | omega), (by (try rw [c1118]); first | done | assumption), (by (try rw [c1120]); first | done | assumption), (by (try rw [c1122]); first | done | assumption), hL1095, (fun b hb => (Option.some.inj (d2.symm.trans hb)) ▸ (rp1090 _ d2)), trivial⟩), trivial⟩
                                          · skip
                                            obtain ⟨v1126, c1127⟩ : ∃ v, I1057 a0 9 = v := ⟨_, rfl⟩
                                            have b1128 := iv15_9 hS1064.1 ta0 c1127
                                            rw [c1127] at p1092
                                            obtain ⟨v1129, c1130⟩ : ∃ v, I1057 a0 13 = v := ⟨_, rfl⟩
                                            rw [c1130] at p1093
                                            obtain ⟨v1131, c1132⟩ : ∃ v, I1057 a0 14 = v := ⟨_, rfl⟩
                                            rw [c1132] at p1094
                                            refine tr_goto 186 dX12_readLine_162 (by decide) ?_
                                            obtain ⟨v1133, c1134⟩ : ∃ v, I1057 a1 5 = v := ⟨_, rfl⟩
                                            have b1135 := iv14_5 hS1064.1 ta1 c1134
                                            obtain ⟨v1136, c1137⟩ : ∃ v, I1057 a0 10 = v := ⟨_, rfl⟩
                                            have b1138 := iv15_10 hS1064.1 ta0 c1137
                                            obtain ⟨v1139, c1140⟩ : ∃ v, I1057 a0 11 = v := ⟨_, rfl⟩
                                            obtain ⟨y1141, c1142⟩ : ∃ v, L1059 a0 15 = v := ⟨_, rfl⟩
                                            obtain ⟨v1143, c1144⟩ : ∃ v, I1057 a0 12 = v := ⟨_, rfl⟩
                                            obtain ⟨v1145, c1146⟩ : ∃ v, I1057 a0 8 = v := ⟨_, rfl⟩
                                            have b1147 := iv15_8 hS1064.1 ta0 c1146
                                            exact tr_vret hZ dX12_readLine_186 rfl (by decide) (by decide) ⟨rfl, rfl, rfl, rfl, rfl, hS1064, (Or.inr (⟨(by first | done | omega), (by (try rw [c1127]); first | done | omega), (by (try rw [c1130]); first | done | omega), (by (try rw [c1132]); first | done | omega), trivial⟩)), trivial⟩
                                      · skip
                                        refine q_if_eq 165 dX12_readLine_155 (by decide) (fun h1148 => ?_) (fun h1148 => ?_)
                                        · skip
                                          refine tr_aload_n dX12_readLine_165 rfl ?_
                                          refine tr_ldcS dX12_readLine_166 ld12_184 ?_
                                          refine q_callVi hE (M' := mX12_isWord) (as := [_]) dX12_readLine_168 lk12_138 inX12_isWord seX12_isWord myX12_isWord (by decide) ⟨by decide, by decide⟩ rfl (kR15 hS0.1 ta0) (Nat.le_of_ble_eq_true rfl) rfl rfl (by decide) (by decide) (fk_X12_isWord hS0.1 (gB) (gs) ta0 (by decide) (by (try rw [c4]); first | done | omega) (by (try rw [c16]); first | done | assumption)) ?_
                                          rintro v1154 cn' K' N' I1149 R1150 L1151 ⟨rfl, rfl, rfl, rfl, rfl, rfl, h1155, dj1156, -⟩
                                          (try rw [pk_23] at dj1156)
                                          rcases dj1156 with ⟨p1157, p1158, p1159, -⟩ | ⟨p1160, p1161, -⟩
                                          · skip
                                            have sr1162 : srt gB gs = 9 := srt_9 (by omega) (by omega)
                                            refine q_if_eq 181 dX12_readLine_171 (by decide) (fun h1163 => ?_) (fun h1163 => ?_)
                                            · skip
                                              exfalso; omega
                                            · skip
                                              refine tr_aload_n dX12_readLine_174 rfl ?_
                                              refine q_callVv hE (M' := mX12_readSlice) (as := []) dX12_readLine_175 lk12_245 inX12_readSlice seX12_readSlice myX12_readSlice (by decide) ⟨by decide, by decide⟩ rfl (kR15 hS0.1 ta0) (Nat.le_of_ble_eq_true rfl) rfl rfl (by decide) (by decide) (fk_X12_readSlice hS0.1 (gB) (gs) (gQ) ta0 (TxA.kp hT hS0 ta0 rfl rfl rfl (by decide +kernel) (by decide +kernel)) (fun b hb => (Option.some.inj (d2.symm.trans hb)) ▸ hM0) (by (try rw [c4]); first | done | omega) (by (try rw [c4]); first | done | omega) (by (try rw [c9]); first | done | omega) (by (try rw [c13]); first | done | omega) (by (try rw [c16]); first | done | assumption) (by (try rw [c19]); first | done | assumption) (by (try rw [c22]); first | done | assumption) (by (try rw [c26]); first | done | omega) (fun q0 z0 => by obtain rfl := Option.some.inj ((d2).symm.trans z0); (try rw [c30]); first | done | omega) (fun q0 z0 => by obtain rfl := Option.some.inj ((d2).symm.trans z0); (try rw [c34]); first | done | omega) (fun q0 z0 => by obtain rfl := Option.some.inj ((d2).symm.trans z0); (try rw [c38]); first | done | omega) (fun q0 z0 => by obtain rfl := Option.some.inj ((d2).symm.trans z0); (try rw [c42]); first | done | omega) (fun q0 z0 => by obtain rfl := Option.some.inj ((d2).symm.trans z0); (try rw [c46]); first | done | omega) (fun q0 z0 => by obtain rfl := Option.some.inj ((d2).symm.trans z0); (try rw [c50]); first | done | omega) (fun q0 z0 => by obtain rfl := Option.some.inj ((d2).symm.trans z0); (try rw [c54]); first | done | omega) (fun q0 z0 => by obtain rfl := Option.some.inj ((d2).symm.trans z0); (try rw [c58]); first | done | omega) (by first | done | assumption) (by first | done | omega) (by first | done | omega) ⟨_, d2⟩) ?_
                                              rintro cn' K' N' I1164 R1165 L1166 ⟨rfl, rfl, rfl, rfl, g1167, dj1170, -⟩
                                              have hS1171 := hS0.tr g1167 (by decide +kernel) (by decide +kernel)
                                              have c1172 : I1164 a1 0 = v29 := (g1167.cell ta1 (by decide +kernel)).trans c30
                                              have c1173 : I1164 a1 1 = v33 := (g1167.cell ta1 (by decide +kernel)).trans c34
                                              have c1174 : I1164 a1 2 = v37 := (g1167.cell ta1 (by decide +kernel)).trans c38
                                              have c1175 : I1164 a1 3 = v41 := (g1167.cell ta1 (by decide +kernel)).trans c42
                                              have c1176 : I1164 a1 4 = v45 := (g1167.cell ta1 (by decide +kernel)).trans c46
                                              have c1177 : I1164 a1 5 = v49 := (g1167.cell ta1 (by decide +kernel)).trans c50
                                              have c1178 : I1164 a1 9 = v57 := (g1167.cell ta1 (by decide +kernel)).trans c58
                                              rcases dj1170 with ⟨p1179, p1180, p1181, p1182, p1183, p1184, p1185, p1186, p1187, p1188, p1189, p1190, p1191, p1192, p1193, p1194, p1195, gl1196, rp1197, -⟩ | ⟨p1198, p1199, p1200, p1201, -⟩
                                              · skip
                                                have hL1202 := hL0.tr gl1196 (by decide +kernel)
                                                have p1203 := p1180 _ d2
                                                clear p1180
                                                rw [c1172] at p1203
                                                have p1204 := p1181 _ d2
                                                clear p1181
                                                rw [c1173] at p1204
                                                have p1205 := p1182 _ d2
                                                clear p1182
                                                rw [c1174] at p1205
                                                have p1206 := p1183 _ d2
                                                clear p1183
                                                rw [c1175] at p1206
                                                have p1207 := p1184 _ d2
                                                clear p1184
                                                rw [c1176] at p1207
                                                have p1208 := p1185 _ d2
                                                clear p1185
                                                rw [c1177] at p1208
                                                obtain ⟨v1209, c1210⟩ : ∃ v, I1164 a1 6 = v := ⟨_, rfl⟩
                                                have b1211 := iv14_6 hS1171.1 ta1 c1210
                                                have p1212 := p1186 _ d2
                                                clear p1186
                                                rw [c1210] at p1212
                                                have p1213 := p1187 _ d2
                                                clear p1187
                                                rw [c1178] at p1213
                                                obtain ⟨v1214, c1215⟩ : ∃ v, I1164 a0 13 = v := ⟨_, rfl⟩
                                                rw [c1215] at p1188
                                                rw [c63] at p1188
                                                obtain ⟨v1216, c1217⟩ : ∃ v, I1164 a0 9 = v := ⟨_, rfl⟩
                                                have b1218 := iv15_9 hS1171.1 ta0 c1217
                                                rw [c1217] at p1189
                                                rw [c1217] at p1190
                                                obtain ⟨v1219, c1220⟩ : ∃ v, I1164 a0 10 = v := ⟨_, rfl⟩
                                                have b1221 := iv15_10 hS1171.1 ta0 c1220
                                                rw [c1220] at p1191
                                                obtain ⟨v1222, c1223⟩ : ∃ v, I1164 a0 11 = v := ⟨_, rfl⟩
                                                rw [c1223] at p1192
                                                obtain ⟨y1224, c1225⟩ : ∃ v, L1166 a0 15 = v := ⟨_, rfl⟩
                                                rw [c1225] at p1193
                                                obtain ⟨v1226, c1227⟩ : ∃ v, I1164 a0 12 = v := ⟨_, rfl⟩
                                                rw [c1227] at p1194
                                                obtain ⟨v1228, c1229⟩ : ∃ v, I1164 a0 8 = v := ⟨_, rfl⟩
                                                have b1230 := iv15_8 hS1171.1 ta0 c1229
                                                rw [c1229] at p1195
                                                refine tr_goto 186 dX12_readLine_178 (by decide) ?_
                                                obtain ⟨v1231, c1232⟩ : ∃ v, I1164 a0 14 = v := ⟨_, rfl⟩
                                                exact tr_vret hZ dX12_readLine_186 rfl (by decide) (by decide) ⟨rfl, rfl, rfl, rfl, rfl, hS1171, (Or.inl ⟨(by first | done | omega), (fun q0 z0 => by obtain rfl := Option.some.inj ((d2).symm.trans z0); (try rw [c1172]); first | done | omega), (fun q0 z0 => by obtain rfl := Option.some.inj ((d2).symm.trans z0); (try rw [c1173]); first | done | omega), (fun q0 z0 => by obtain rfl := Option.some.inj ((d2).symm.trans z0); (try rw [c1174]); first | done | omega), (fun q0 z0 => by obtain rfl := Option.some.inj ((d2).symm.trans z0); (try rw [c1175]); first | done | omega), (fun q0 z0 => by obtain rfl := Option.some.inj ((d2).symm.trans z0); (try rw [c1176]); first | done | omega), (fun q0 z0 => by obtain rfl := Option.some.inj ((d2).symm.trans z0); (try rw [c1177]); first | done | omega), (fun q0 z0 => by obtain rfl := Option.some.inj ((d2).symm.trans z0); (try rw [c1210]); first | done | omega), (fun q0 z0 => by obtain rfl := Option.some.inj ((d2).symm.trans z0); (try rw [c1178]); first | done | omega), (by (try rw [c1215]); (try rw [c63]); first | done | omega), (by (try rw [c1217]); first | done | omega), (by (try rw [c1217]); first | done | omega), (by (try rw [c1220]); first | done | omega), (by (try rw [c1223]); first | done | omega), (by (try rw [c1225]); first | done | assumption), (by (try rw [c1227]); first | done | assumption), (by (try rw [c1229]); first | done | assumption), hL1202, (fun b hb => (Option.some.inj (d2.symm.trans hb)) ▸ (rp1197 _ d2)), trivial⟩), trivial⟩
                                              · skip
                                                obtain ⟨v1233, c1234⟩ : ∃ v, I1164 a0 9 = v := ⟨_, rfl⟩
                                                have b1235 := iv15_9 hS1171.1 ta0 c1234
                                                rw [c1234] at p1199
                                                obtain ⟨v1236, c1237⟩ : ∃ v, I1164 a0 13 = v := ⟨_, rfl⟩
                                                rw [c1237] at p1200
                                                obtain ⟨v1238, c1239⟩ : ∃ v, I1164 a0 14 = v := ⟨_, rfl⟩
                                                rw [c1239] at p1201
                                                refine tr_goto 186 dX12_readLine_178 (by decide) ?_
                                                obtain ⟨v1240, c1241⟩ : ∃ v, I1164 a1 6 = v := ⟨_, rfl⟩
                                                have b1242 := iv14_6 hS1171.1 ta1 c1241
                                                obtain ⟨v1243, c1244⟩ : ∃ v, I1164 a0 10 = v := ⟨_, rfl⟩
                                                have b1245 := iv15_10 hS1171.1 ta0 c1244
                                                obtain ⟨v1246, c1247⟩ : ∃ v, I1164 a0 11 = v := ⟨_, rfl⟩
                                                obtain ⟨y1248, c1249⟩ : ∃ v, L1166 a0 15 = v := ⟨_, rfl⟩
                                                obtain ⟨v1250, c1251⟩ : ∃ v, I1164 a0 12 = v := ⟨_, rfl⟩
                                                obtain ⟨v1252, c1253⟩ : ∃ v, I1164 a0 8 = v := ⟨_, rfl⟩
                                                have b1254 := iv15_8 hS1171.1 ta0 c1253
                                                exact tr_vret hZ dX12_readLine_186 rfl (by decide) (by decide) ⟨rfl, rfl, rfl, rfl, rfl, hS1171, (Or.inr (⟨(by first | done | omega), (by (try rw [c1234]); first | done | omega), (by (try rw [c1237]); first | done | omega), (by (try rw [c1239]); first | done | omega), trivial⟩)), trivial⟩
                                          · skip
                                            refine q_if_eq 181 dX12_readLine_171 (by decide) (fun h1255 => ?_) (fun h1255 => ?_)
                                            · skip
                                              have sr1256 : srt gB gs = -1 := srt_nw p188 p297 p406 p515 p624 p733 p840 p947 p1054 p1161 p76
                                              obtain ⟨sr1256a, sr1256b⟩ := lnF_no (Q := gQ) sr1256
                                              refine tr_aload_n dX12_readLine_181 rfl ?_
                                              refine q_iconst dX12_readLine_182 (by decide) ?_
                                              intro v1257 h1258
                                              refine q_callVv hE (M' := mX12_flaw) (as := [_]) dX12_readLine_183 lk12_145 inX12_flaw seX12_flaw myX12_flaw (by decide) ⟨by decide, by decide⟩ rfl (kR15 hS0.1 ta0) (Nat.le_of_ble_eq_true rfl) rfl rfl (by decide) (by decide) (fk_X12_flaw hS0.1  ta0 (by omega) (by (try rw [c4]); first | done | omega)) ?_
                                              rintro cn' K' N' I1259 R1260 L1261 ⟨rfl, rfl, rfl, rfl, rfl, g1262, p1265, p1266, p1267, -⟩
                                              have hM1268 : NmM I1259 R0 L0 a1 gQ := NmM.kpS hM0 g1262 hS0.1 ta1 (by decide +kernel) (by decide +kernel)
                                              have hS1269 := hS0.tr g1262 (by decide +kernel) (by decide +kernel)
                                              have c1270 : I1259 a0 10 = v8 := (g1262.cell ta0 (by decide +kernel)).trans c9
                                              have c1271 : I1259 a0 11 = v12 := (g1262.cell ta0 (by decide +kernel)).trans c13
                                              have c1272 : I1259 a0 12 = v18 := (g1262.cell ta0 (by decide +kernel)).trans c19
                                              have c1273 : I1259 a0 8 = v21 := (g1262.cell ta0 (by decide +kernel)).trans c22
                                              have c1274 : I1259 a1 0 = v29 := (g1262.cell ta1 (by decide +kernel)).trans c30
                                              have c1275 : I1259 a1 1 = v33 := (g1262.cell ta1 (by decide +kernel)).trans c34
                                              have c1276 : I1259 a1 2 = v37 := (g1262.cell ta1 (by decide +kernel)).trans c38
                                              have c1277 : I1259 a1 3 = v41 := (g1262.cell ta1 (by decide +kernel)).trans c42
                                              have c1278 : I1259 a1 4 = v45 := (g1262.cell ta1 (by decide +kernel)).trans c46
                                              have c1279 : I1259 a1 5 = v49 := (g1262.cell ta1 (by decide +kernel)).trans c50
                                              have c1280 : I1259 a1 6 = v53 := (g1262.cell ta1 (by decide +kernel)).trans c54
                                              have c1281 : I1259 a1 9 = v57 := (g1262.cell ta1 (by decide +kernel)).trans c58
                                              obtain ⟨v1282, c1283⟩ : ∃ v, I1259 a0 9 = v := ⟨_, rfl⟩
                                              have b1284 := iv15_9 hS1269.1 ta0 c1283
                                              rw [c1283] at p1265
                                              obtain ⟨v1285, c1286⟩ : ∃ v, I1259 a0 13 = v := ⟨_, rfl⟩
                                              rw [c1286] at p1266
                                              obtain ⟨v1287, c1288⟩ : ∃ v, I1259 a0 14 = v := ⟨_, rfl⟩
                                              rw [c1288] at p1267
                                              rw [c9] at p1267
                                              exact tr_vret hZ dX12_readLine_186 rfl (by decide) (by decide) ⟨rfl, rfl, rfl, rfl, rfl, hS1269, (Or.inr (⟨(by first | done | omega), (by (try rw [c1283]); first | done | omega), (by (try rw [c1286]); first | done | omega), (by (try rw [c1288]); first | done | omega), trivial⟩)), trivial⟩
                                            · skip
                                              exfalso; omega
                                        · skip
                                          exfalso; omega
                                    · skip
                                      exfalso; omega
                                · skip
                                  exfalso; omega
                            · skip
                              exfalso; omega
                        · skip
                          exfalso; omega
                    · skip
                      exfalso; omega
                · skip
                  exfalso; omega
            · skip
              exfalso; omega
        · skip
          exfalso; omega
    · skip
      exfalso; omega
def wik_X12_readAll : List Nat := [896, 897, 898, 899, 900, 901, 902, 903, 904, 905, 968, 969, 970, 971, 972, 973, 974, 3455, 3519, 3583, 3647, 3711, 3775, 3839, 3903, 3967, 4031, 4095, 4159, 4223, 4287, 4351, 4415, 4479, 4543, 4607, 4671, 4799, 4863]
def wrk_X12_readAll : List Nat := []
def wlk_X12_readAll : List Nat := [975, 4735]
set_option maxHeartbeats 4000000 in
theorem fk_X12_readAll {l : Launch} {T : Nat → Nat} {cn : Nat} {K N : Nat → Nat} {I0 : cz_I} {R0 : cz_R} {L0 : cz_L} (hW0 : Wf T cn K N I0 R0 0) (gB : cz_B) {a0 : Nat} (ta0 : T a0 = 15) (hT : ∀ t, R0 a0 5 = some t → Tx I0 t gB) (hN : ∀ b, R0 a0 4 = some b → NmM I0 R0 L0 b Q00) (pre0 : (I0 a0 9).toInt = (tkM gB 0)) (pre1 : (I0 a0 9).toInt ≤ 4) (pre2 : (I0 a0 10).toInt = (tkS gB 0)) (pre3 : (I0 a0 11).toInt = (tkG gB 0)) (pre4 : (AtW ((tkK gB 0)) ((L0 a0 15).toInt) ((tkW gB 0)))) (pre5 : (AtV ((tkK gB 0)) ((I0 a0 12).toInt) ((tkV gB 0)))) (pre6 : (AtN ((tkK gB 0)) ((I0 a0 8).toInt) ((tkN gB 0)))) (pre7 : (I0 a0 7).toInt = (gB.2)) (pre8 : ∀ b1, R0 a0 4 = some b1 → (I0 b1 0).toInt = (Q00 0)) (pre9 : ∀ b1, R0 a0 4 = some b1 → (I0 b1 1).toInt = (Q00 1)) (pre10 : ∀ b1, R0 a0 4 = some b1 → (I0 b1 2).toInt = (Q00 2)) (pre11 : ∀ b1, R0 a0 4 = some b1 → (I0 b1 3).toInt = (Q00 3)) (pre12 : ∀ b1, R0 a0 4 = some b1 → (I0 b1 4).toInt = (Q00 4)) (pre13 : ∀ b1, R0 a0 4 = some b1 → (I0 b1 5).toInt = (Q00 5)) (pre14 : ∀ b1, R0 a0 4 = some b1 → (I0 b1 6).toInt = (Q00 6)) (pre15 : ∀ b1, R0 a0 4 = some b1 → (I0 b1 9).toInt = (Q00 8)) (nn4 : ∃ b, R0 a0 4 = some b) : ConE l mX12_readAll [.ref a0] cn K N I0 R0 L0 (ca_v (fun cn' K' N' I' R' L' => cn = cn' ∧ K = K' ∧ N = N' ∧ R0 = R' ∧ St T cn K N 0 wik_X12_readAll wrk_X12_readAll I0 R0 I' R0 ∧ ((((lsF gB 901 0 Q00) = 0) ∧ ((I' a0 13).toInt = (I0 a0 13).toInt) ∧ (∀ b1, R0 a0 4 = some b1 → (I' b1 3).toInt = (lsC gB 901 0 Q00)) ∧ ((I' a0 9).toInt ≤ 4) ∧ (∀ b1, R0 a0 4 = some b1 → (I' b1 0).toInt ≥ 1) ∧ LgS T wlk_X12_readAll L0 L' ∧ True) ∨ (((lsF gB 901 0 Q00) ≠ 0) ∧ ((I' a0 9).toInt = 5) ∧ ((I' a0 13).toInt = (lsF gB 901 0 Q00)) ∧ ((I' a0 14).toInt = (lsP gB 901 0 Q00)) ∧ True)) ∧ True)) := by
  refine ConE.of (by decide +kernel) rfl (Nat.le_of_ble_eq_true rfl) rfl (fun X hX hZ hE => ?_)
  subst hX
  have hS0 : St T cn K N 0 wik_X12_readAll wrk_X12_readAll I0 R0 I0 R0 := St.rf0 hW0
  have hL0 : LgS T wlk_X12_readAll L0 L0 := LgS.rf0
  obtain ⟨a1, d2⟩ := nn4
  have ta1 : T a1 = 14 := hW0.rsN ta0 rfl d2
  obtain ⟨v3, c4⟩ : ∃ v, I0 a0 9 = v := ⟨_, rfl⟩
  have b5 := iv15_9 hS0.1 ta0 c4
  have p6 := pre0
  rw [c4] at p6
  have p7 := pre1
  rw [c4] at p7
  obtain ⟨v8, c9⟩ : ∃ v, I0 a0 10 = v := ⟨_, rfl⟩
  have b10 := iv15_10 hS0.1 ta0 c9
  have p11 := pre2
  rw [c9] at p11
  obtain ⟨v12, c13⟩ : ∃ v, I0 a0 11 = v := ⟨_, rfl⟩
  have p14 := pre3
  rw [c13] at p14
  obtain ⟨y15, c16⟩ : ∃ v, L0 a0 15 = v := ⟨_, rfl⟩
  have p17 := pre4
  rw [c16] at p17
  obtain ⟨v18, c19⟩ : ∃ v, I0 a0 12 = v := ⟨_, rfl⟩
  have p20 := pre5
  rw [c19] at p20
  obtain ⟨v21, c22⟩ : ∃ v, I0 a0 8 = v := ⟨_, rfl⟩
  have b23 := iv15_8 hS0.1 ta0 c22
  have p24 := pre6
  rw [c22] at p24
  obtain ⟨v25, c26⟩ : ∃ v, I0 a0 7 = v := ⟨_, rfl⟩
  have b27 := iv15_7 hW0 ta0 c26
  have p28 := pre7
  rw [c26] at p28
  obtain ⟨v29, c30⟩ : ∃ v, I0 a1 0 = v := ⟨_, rfl⟩
  have b31 := iv14_0 hS0.1 ta1 c30
  have p32 := pre8 _ d2
  rw [c30] at p32
  obtain ⟨v33, c34⟩ : ∃ v, I0 a1 1 = v := ⟨_, rfl⟩
  have b35 := iv14_1 hS0.1 ta1 c34
  have p36 := pre9 _ d2
  rw [c34] at p36
  obtain ⟨v37, c38⟩ : ∃ v, I0 a1 2 = v := ⟨_, rfl⟩
  have b39 := iv14_2 hS0.1 ta1 c38
  have p40 := pre10 _ d2
  rw [c38] at p40
  obtain ⟨v41, c42⟩ : ∃ v, I0 a1 3 = v := ⟨_, rfl⟩
  have b43 := iv14_3 hS0.1 ta1 c42
  have p44 := pre11 _ d2
  rw [c42] at p44
  obtain ⟨v45, c46⟩ : ∃ v, I0 a1 4 = v := ⟨_, rfl⟩
  have b47 := iv14_4 hS0.1 ta1 c46
  have p48 := pre12 _ d2
  rw [c46] at p48
  obtain ⟨v49, c50⟩ : ∃ v, I0 a1 5 = v := ⟨_, rfl⟩
  have b51 := iv14_5 hS0.1 ta1 c50
  have p52 := pre13 _ d2
  rw [c50] at p52
  obtain ⟨v53, c54⟩ : ∃ v, I0 a1 6 = v := ⟨_, rfl⟩
  have b55 := iv14_6 hS0.1 ta1 c54
  have p56 := pre14 _ d2
  rw [c54] at p56
  obtain ⟨v57, c58⟩ : ∃ v, I0 a1 9 = v := ⟨_, rfl⟩
  have b59 := iv14_9 hS0.1 ta1 c58
  have p60 := pre15 _ d2
  rw [c58] at p60
  obtain ⟨v61, c62⟩ : ∃ v, I0 a0 13 = v := ⟨_, rfl⟩
  have hM0 := hN _ d2
  have q00_0 : Q00 0 = 0 := rfl
  have q00_1 : Q00 1 = 0 := rfl
  have q00_2 : Q00 2 = 0 := rfl
  have q00_3 : Q00 3 = 0 := rfl
  have q00_4 : Q00 4 = 0 := rfl
  have q00_5 : Q00 5 = 0 := rfl
  have q00_6 : Q00 6 = 0 := rfl
  have q00_7 : Q00 7 = 0 := rfl
  have q00_8 : Q00 8 = 0 := rfl
  refine q_iconst dX12_readAll_0 (by decide) ?_
  intro v63 h64
  refine tr_istore_n dX12_readAll_1 (by decide) (by decide) ?_
  have lp128 : ∀ (fu : Nat) (ls : Nat → Option Value) (v65 : Int32) (I68 : cz_I) (L69 : cz_L) (gs70 : Int) (gr71 : Nat) (gQ72 : Nat → Int) (v76 : Int32) (v78 : Int32) (v80 : Int32) (v82 : Int32) (y84 : Int64) (v86 : Int32) (v88 : Int32) (v90 : Int32) (v92 : Int32) (v94 : Int32) (v96 : Int32) (v98 : Int32) (v100 : Int32) (v102 : Int32) (v104 : Int32), ls 0 = some (.ref a0) → ls 1 = some (.int v65) → St T cn K N 0 wik_X12_readAll wrk_X12_readAll I0 R0 I68 R0 → LgS T wlk_X12_readAll L0 L69 → NmM I68 R0 L69 a1 gQ72 → I68 a0 13 = v76 → I68 a0 9 = v78 → I68 a0 10 = v80 → I68 a0 11 = v82 → L69 a0 15 = y84 → I68 a0 12 = v86 → I68 a0 8 = v88 → I68 a1 0 = v90 → I68 a1 1 = v92 → I68 a1 2 = v94 → I68 a1 3 = v96 → I68 a1 4 = v98 → I68 a1 5 = v100 → I68 a1 6 = v102 → I68 a1 9 = v104 → (lsF gB gr71 gs70 gQ72) = (lsF gB 901 0 Q00) → (lsP gB gr71 gs70 gQ72) = (lsP gB 901 0 Q00) → (lsC gB gr71 gs70 gQ72) = (lsC gB 901 0 Q00) → v65.toInt = 1 → ((gr71 : Int)) + v80.toInt ≥ 901 → v76.toInt = v61.toInt → v78.toInt = (tkM gB gs70) → v78.toInt ≤ 4 → v80.toInt = (tkS gB gs70) → v82.toInt = (tkG gB gs70) → (AtW ((tkK gB gs70)) (y84.toInt) ((tkW gB gs70))) → (AtV ((tkK gB gs70)) (v86.toInt) ((tkV gB gs70))) → (AtN ((tkK gB gs70)) (v88.toInt) ((tkN gB gs70))) → v90.toInt = (gQ72 0) → v92.toInt = (gQ72 1) → v94.toInt = (gQ72 2) → v96.toInt = (gQ72 3) → v98.toInt = (gQ72 4) → v100.toInt = (gQ72 5) → v102.toInt = (gQ72 6) → v104.toInt = (gQ72 8) → (Q7M ((gQ72 0)) ((gQ72 7))) → (-v80.toInt + 900).toNat < fu → Tr X mX12_readAll 2 ls [] cn K N I68 R0 L69 0 0 := by
    intro fu
    induction fu with
    | zero => intros; rename_i hz; exact absurd hz (Nat.not_lt_zero _)
    | succ fu ih128 =>
      intro ls v65 I68 L69 gs70 gr71 gQ72 v76 v78 v80 v82 y84 v86 v88 v90 v92 v94 v96 v98 v100 v102 v104 hl66 hl67 hS73 hL74 hM75 c77 c79 c81 c83 c85 c87 c89 c91 c93 c95 c97 c99 c101 c103 c105 g106 g107 g108 g109 g110 g111 g112 g113 g114 g115 g116 g117 g118 g119 g120 g121 g122 g123 g124 g125 g126 g127 hm128
      have b130 := iv15_9 hS73.1 ta0 c79
      have b131 := iv15_10 hS73.1 ta0 c81
      have b132 := iv15_8 hS73.1 ta0 c89
      have b133 := iv14_0 hS73.1 ta1 c91
      have b134 := iv14_1 hS73.1 ta1 c93
      have b135 := iv14_2 hS73.1 ta1 c95
      have b136 := iv14_3 hS73.1 ta1 c97
      have b137 := iv14_4 hS73.1 ta1 c99
      have b138 := iv14_5 hS73.1 ta1 c101
      have b139 := iv14_6 hS73.1 ta1 c103
      have b140 := iv14_9 hS73.1 ta1 c105
      rcases Nat.eq_zero_or_pos gr71 with hz141 | hz141
      · skip
        subst hz141
        exfalso; omega
      · skip
        obtain ⟨gk142, rfl⟩ : ∃ k, gr71 = k + 1 := ⟨gr71 - 1, by omega⟩
        refine tr_iload_n dX12_readAll_2 hl67 ?_
        refine q_if_eq 20 dX12_readAll_3 (by decide) (fun h143 => ?_) (fun h143 => ?_)
        · skip
          exfalso; omega
        · skip
          refine tr_aload_n dX12_readAll_6 hl66 ?_
          refine q_callVv hE (M' := mX12_readLine) (as := []) dX12_readAll_7 lk12_218 inX12_readLine seX12_readLine myX12_readLine (by decide) ⟨by decide, by decide⟩ rfl (kR15 hS73.1 ta0) (Nat.le_of_ble_eq_true rfl) rfl rfl (by decide) (by decide) (fk_X12_readLine hS73.1 (gB) (gs70) (gQ72) ta0 (TxA.kp hT hS73 ta0 rfl rfl rfl (by decide +kernel) (by decide +kernel)) (fun b hb => (Option.some.inj (d2.symm.trans hb)) ▸ hM75) (by (try rw [c79]); first | done | omega) (by (try rw [c79]); first | done | omega) (by (try rw [c81]); first | done | omega) (by (try rw [c83]); first | done | omega) (by (try rw [c85]); first | done | assumption) (by (try rw [c87]); first | done | assumption) (by (try rw [c89]); first | done | assumption) (by (try rw [((hS73.cell ta0 (by decide +kernel)).trans c26)]); first | done | omega) (fun q0 z0 => by obtain rfl := Option.some.inj ((d2).symm.trans z0); (try rw [c91]); first | done | omega) (fun q0 z0 => by obtain rfl := Option.some.inj ((d2).symm.trans z0); (try rw [c93]); first | done | omega) (fun q0 z0 => by obtain rfl := Option.some.inj ((d2).symm.trans z0); (try rw [c95]); first | done | omega) (fun q0 z0 => by obtain rfl := Option.some.inj ((d2).symm.trans z0); (try rw [c97]); first | done | omega) (fun q0 z0 => by obtain rfl := Option.some.inj ((d2).symm.trans z0); (try rw [c99]); first | done | omega) (fun q0 z0 => by obtain rfl := Option.some.inj ((d2).symm.trans z0); (try rw [c101]); first | done | omega) (fun q0 z0 => by obtain rfl := Option.some.inj ((d2).symm.trans z0); (try rw [c103]); first | done | omega) (fun q0 z0 => by obtain rfl := Option.some.inj ((d2).symm.trans z0); (try rw [c105]); first | done | omega) (by first | done | assumption) ⟨_, d2⟩) ?_
          rintro cn' K' N' I144 R145 L146 ⟨rfl, rfl, rfl, rfl, g147, dj150, -⟩
          have hS151 := hS73.tr g147 (by decide +kernel) (by decide +kernel)
          rcases dj150 with ⟨p152, p153, p154, p155, p156, p157, p158, p159, p160, p161, p162, p163, p164, p165, p166, p167, p168, gl169, rp170, -⟩ | ⟨p171, p172, p173, p174, -⟩
          · skip
            have hL175 := hL74.tr gl169 (by decide +kernel)
            obtain ⟨v176, c177⟩ : ∃ v, I144 a1 0 = v := ⟨_, rfl⟩
            have b178 := iv14_0 hS151.1 ta1 c177
            have p179 := p153 _ d2
            clear p153
            rw [c177] at p179
            obtain ⟨v180, c181⟩ : ∃ v, I144 a1 1 = v := ⟨_, rfl⟩
            have b182 := iv14_1 hS151.1 ta1 c181
            have p183 := p154 _ d2
            clear p154
            rw [c181] at p183
            obtain ⟨v184, c185⟩ : ∃ v, I144 a1 2 = v := ⟨_, rfl⟩
            have b186 := iv14_2 hS151.1 ta1 c185
            have p187 := p155 _ d2
            clear p155
            rw [c185] at p187
            obtain ⟨v188, c189⟩ : ∃ v, I144 a1 3 = v := ⟨_, rfl⟩
            have b190 := iv14_3 hS151.1 ta1 c189
            have p191 := p156 _ d2
            clear p156
            rw [c189] at p191
            obtain ⟨v192, c193⟩ : ∃ v, I144 a1 4 = v := ⟨_, rfl⟩
            have b194 := iv14_4 hS151.1 ta1 c193
            have p195 := p157 _ d2
            clear p157
            rw [c193] at p195
            obtain ⟨v196, c197⟩ : ∃ v, I144 a1 5 = v := ⟨_, rfl⟩
            have b198 := iv14_5 hS151.1 ta1 c197
            have p199 := p158 _ d2
            clear p158
            rw [c197] at p199
            obtain ⟨v200, c201⟩ : ∃ v, I144 a1 6 = v := ⟨_, rfl⟩
            have b202 := iv14_6 hS151.1 ta1 c201
            have p203 := p159 _ d2
            clear p159
            rw [c201] at p203
            obtain ⟨v204, c205⟩ : ∃ v, I144 a1 9 = v := ⟨_, rfl⟩
            have b206 := iv14_9 hS151.1 ta1 c205
            have p207 := p160 _ d2
            clear p160
            rw [c205] at p207
            obtain ⟨v208, c209⟩ : ∃ v, I144 a0 13 = v := ⟨_, rfl⟩
            rw [c209] at p161
            rw [c77] at p161
            obtain ⟨v210, c211⟩ : ∃ v, I144 a0 9 = v := ⟨_, rfl⟩
            have b212 := iv15_9 hS151.1 ta0 c211
            rw [c211] at p162
            rw [c211] at p163
            obtain ⟨v213, c214⟩ : ∃ v, I144 a0 10 = v := ⟨_, rfl⟩
            have b215 := iv15_10 hS151.1 ta0 c214
            rw [c214] at p164
            obtain ⟨v216, c217⟩ : ∃ v, I144 a0 11 = v := ⟨_, rfl⟩
            rw [c217] at p165
            obtain ⟨y218, c219⟩ : ∃ v, L146 a0 15 = v := ⟨_, rfl⟩
            rw [c219] at p166
            obtain ⟨v220, c221⟩ : ∃ v, I144 a0 12 = v := ⟨_, rfl⟩
            rw [c221] at p167
            obtain ⟨v222, c223⟩ : ∃ v, I144 a0 8 = v := ⟨_, rfl⟩
            have b224 := iv15_8 hS151.1 ta0 c223
            rw [c223] at p168
            obtain ⟨lq225, lq225a, lq225b⟩ := Q7M.ln (B := gB) (Q := gQ72) (s := gs70) (by omega) g127
            refine tr_aload_n dX12_readAll_10 hl66 ?_
            refine q_bipush dX12_readAll_11 (by decide +kernel) ?_
            intro v226 h227
            refine q_callVi hE (M' := mX12_eatsSign) (as := [_]) dX12_readAll_13 lk12_221 inX12_eatsSign seX12_eatsSign myX12_eatsSign (by decide) ⟨by decide, by decide⟩ rfl (kR15 hS151.1 ta0) (Nat.le_of_ble_eq_true rfl) rfl rfl (by decide) (by decide) (fk_X12_eatsSign hS151.1 (gB) ((lnS gB gQ72 gs70)) ta0 (TxA.kp hT hS151 ta0 rfl rfl rfl (by decide +kernel) (by decide +kernel)) (by (try rw [c211]); first | done | omega) (by (try rw [c211]); first | done | omega) (by (try rw [c214]); first | done | omega) (by (try rw [c217]); first | done | omega) (by (try rw [c219]); first | done | assumption) (by (try rw [c221]); first | done | assumption) (by (try rw [c223]); first | done | assumption) (by (try rw [((hS151.cell ta0 (by decide +kernel)).trans c26)]); first | done | omega) (by first | done | omega)) ?_
            rintro v233 cn' K' N' I228 R229 L230 ⟨rfl, rfl, rfl, rfl, g231, gl232, h234, dj235, -⟩
            have hM236 : NmM I228 R0 L146 a1 (lnQ gB gQ72 gs70) := NmM.kpS (rp170 _ d2) g231 hS151.1 ta1 (by decide +kernel) (by decide +kernel)
            have hS237 := hS151.tr g231 (by decide +kernel) (by decide +kernel)
            have c238 : I228 a1 0 = v176 := (g231.cell ta1 (by decide +kernel)).trans c177
            have c239 : I228 a1 1 = v180 := (g231.cell ta1 (by decide +kernel)).trans c181
            have c240 : I228 a1 2 = v184 := (g231.cell ta1 (by decide +kernel)).trans c185
            have c241 : I228 a1 3 = v188 := (g231.cell ta1 (by decide +kernel)).trans c189
            have c242 : I228 a1 4 = v192 := (g231.cell ta1 (by decide +kernel)).trans c193
            have c243 : I228 a1 5 = v196 := (g231.cell ta1 (by decide +kernel)).trans c197
            have c244 : I228 a1 6 = v200 := (g231.cell ta1 (by decide +kernel)).trans c201
            have c245 : I228 a1 9 = v204 := (g231.cell ta1 (by decide +kernel)).trans c205
            have c246 : I228 a0 13 = v208 := (g231.cell ta0 (by decide +kernel)).trans c209
            have hL247 := hL175.tr gl232 (by decide +kernel)
            have hM248 : NmM I228 R0 L230 a1 (lnQ gB gQ72 gs70) := NmM.kpL hM236 gl232 hS237.1 ta1 (by decide +kernel)
            rcases dj235 with ⟨p249, p250, p251, p252, p253, p254, p255, p256, p257, p258, -⟩ | ⟨p259, p260, p261, p262, p263, p264, p265, p266, p267, p268, -⟩
            · skip
              rw [c246] at p251
              rw [c209] at p251
              obtain ⟨v269, c270⟩ : ∃ v, I228 a0 9 = v := ⟨_, rfl⟩
              have b271 := iv15_9 hS237.1 ta0 c270
              rw [c270] at p252
              rw [c270] at p253
              obtain ⟨v272, c273⟩ : ∃ v, I228 a0 10 = v := ⟨_, rfl⟩
              have b274 := iv15_10 hS237.1 ta0 c273
              rw [c273] at p254
              obtain ⟨v275, c276⟩ : ∃ v, I228 a0 11 = v := ⟨_, rfl⟩
              rw [c276] at p255
              obtain ⟨y277, c278⟩ : ∃ v, L230 a0 15 = v := ⟨_, rfl⟩
              rw [c278] at p256
              obtain ⟨v279, c280⟩ : ∃ v, I228 a0 12 = v := ⟨_, rfl⟩
              rw [c280] at p257
              obtain ⟨v281, c282⟩ : ∃ v, I228 a0 8 = v := ⟨_, rfl⟩
              have b283 := iv15_8 hS237.1 ta0 c282
              rw [c282] at p258
              refine tr_istore_n dX12_readAll_16 (by decide) (by decide) ?_
              refine tr_goto 2 dX12_readAll_17 (by decide) ?_
              have lg284 := ls_go (B := gB) (Q := gQ72) (s := gs70) (by omega)
              exact ih128 _ v233 I228 L230 ((tkN gB (lnS gB gQ72 gs70))) (gk142) ((lnQ gB gQ72 gs70)) v208 v269 v272 v275 y277 v279 v281 v176 v180 v184 v188 v192 v196 v200 v204 hl66 rfl hS237 hL247 hM248 c246 c270 c273 c276 c278 c280 c282 c238 c239 c240 c241 c242 c243 c244 c245 (by rw [← g106]; simp only [lsF, ↓reduceIte]; repeat' (first | split | omega)) (by rw [← g107]; simp only [lsP, ↓reduceIte]; repeat' (first | split | omega)) (by rw [← g108]; simp only [lsC, ↓reduceIte]; repeat' (first | split | omega)) (by omega) (by omega) (by omega) (by omega) (by omega) (by omega) (by omega) (by assumption) (by assumption) (by assumption) (by omega) (by omega) (by omega) (by omega) (by omega) (by omega) (by omega) (by omega) lq225 (by omega)
            · skip
              rw [c246] at p261
              rw [c209] at p261
              obtain ⟨v285, c286⟩ : ∃ v, I228 a0 9 = v := ⟨_, rfl⟩
              have b287 := iv15_9 hS237.1 ta0 c286
              rw [c286] at p262
              rw [c286] at p263
              obtain ⟨v288, c289⟩ : ∃ v, I228 a0 10 = v := ⟨_, rfl⟩
              have b290 := iv15_10 hS237.1 ta0 c289
              rw [c289] at p264
              obtain ⟨v291, c292⟩ : ∃ v, I228 a0 11 = v := ⟨_, rfl⟩
              rw [c292] at p265
              obtain ⟨y293, c294⟩ : ∃ v, L230 a0 15 = v := ⟨_, rfl⟩
              rw [c294] at p266
              obtain ⟨v295, c296⟩ : ∃ v, I228 a0 12 = v := ⟨_, rfl⟩
              rw [c296] at p267
              obtain ⟨v297, c298⟩ : ∃ v, I228 a0 8 = v := ⟨_, rfl⟩
              have b299 := iv15_8 hS237.1 ta0 c298
              rw [c298] at p268
              refine tr_istore_n dX12_readAll_16 (by decide) (by decide) ?_
              refine tr_goto 2 dX12_readAll_17 (by decide) ?_
              refine tr_iload_n dX12_readAll_2 rfl ?_
              refine q_if_eq 20 dX12_readAll_3 (by decide) (fun h300 => ?_) (fun h300 => ?_)
              · skip
                have ht301 := tkM_of gB (lnS gB gQ72 gs70)
                refine tr_aload_n dX12_readAll_20 hl66 ?_
                refine q_getI dX12_readAll_21 fl12_99 (kR15 hS237.1 ta0) c286 ?_
                refine q_iconst dX12_readAll_24 (by decide) ?_
                intro v302 h303
                refine q_icmp_eq 33 dX12_readAll_25 (by decide) (fun h304 => ?_) (fun h304 => ?_)
                · skip
                  refine tr_aload_n dX12_readAll_33 hl66 ?_
                  refine tr_getR dX12_readAll_34 fl12_188 (kR15 hS237.1 ta0) d2 ?_
                  refine q_getI dX12_readAll_37 fl12_192 (kR14 hS237.1 ta1) c238 ?_
                  refine q_if_eq 53 dX12_readAll_40 (by decide) (fun h305 => ?_) (fun h305 => ?_)
                  · skip
                    exfalso; omega
                  · skip
                    refine tr_aload_n dX12_readAll_43 hl66 ?_
                    refine tr_getR dX12_readAll_44 fl12_188 (kR15 hS237.1 ta0) d2 ?_
                    refine q_getI dX12_readAll_47 fl12_224 (kR14 hS237.1 ta1) c241 ?_
                    refine q_if_ne 59 dX12_readAll_50 (by decide) (fun h306 => ?_) (fun h306 => ?_)
                    · skip
                      obtain ⟨v307, c308⟩ : ∃ v, I228 a0 14 = v := ⟨_, rfl⟩
                      exact tr_vret hZ dX12_readAll_59 rfl (by decide) (by decide) ⟨rfl, rfl, rfl, rfl, rfl, hS237, (Or.inl ⟨(by rw [← g106]; simp only [lsF, ↓reduceIte]; repeat' (first | split | omega)), (by (try rw [c246]); (try rw [c62]); first | done | omega), (fun q0 z0 => by obtain rfl := Option.some.inj ((d2).symm.trans z0); (try rw [c241]); rw [← g108]; simp only [lsC, ↓reduceIte]; repeat' (first | split | omega)), (by (try rw [c286]); first | done | omega), (fun q0 z0 => by obtain rfl := Option.some.inj ((d2).symm.trans z0); (try rw [c238]); first | done | omega), hL247, trivial⟩), trivial⟩
                    · skip
                      refine tr_aload_n dX12_readAll_53 hl66 ?_
                      refine q_bipush dX12_readAll_54 (by decide +kernel) ?_
                      intro v309 h310
                      refine q_callVv hE (M' := mX12_flaw) (as := [_]) dX12_readAll_56 lk12_145 inX12_flaw seX12_flaw myX12_flaw (by decide) ⟨by decide, by decide⟩ rfl (kR15 hS237.1 ta0) (Nat.le_of_ble_eq_true rfl) rfl rfl (by decide) (by decide) (fk_X12_flaw hS237.1  ta0 (by omega) (by (try rw [c286]); first | done | omega)) ?_
                      rintro cn' K' N' I311 R312 L313 ⟨rfl, rfl, rfl, rfl, rfl, g314, p317, p318, p319, -⟩
                      have hM320 : NmM I311 R0 L230 a1 (lnQ gB gQ72 gs70) := NmM.kpS hM248 g314 hS237.1 ta1 (by decide +kernel) (by decide +kernel)
                      have hS321 := hS237.tr g314 (by decide +kernel) (by decide +kernel)
                      have c322 : I311 a1 0 = v176 := (g314.cell ta1 (by decide +kernel)).trans c238
                      have c323 : I311 a1 1 = v180 := (g314.cell ta1 (by decide +kernel)).trans c239
                      have c324 : I311 a1 2 = v184 := (g314.cell ta1 (by decide +kernel)).trans c240
                      have c325 : I311 a1 3 = v188 := (g314.cell ta1 (by decide +kernel)).trans c241
                      have c326 : I311 a1 4 = v192 := (g314.cell ta1 (by decide +kernel)).trans c242
                      have c327 : I311 a1 5 = v196 := (g314.cell ta1 (by decide +kernel)).trans c243
                      have c328 : I311 a1 6 = v200 := (g314.cell ta1 (by decide +kernel)).trans c244
                      have c329 : I311 a1 9 = v204 := (g314.cell ta1 (by decide +kernel)).trans c245
                      have c330 : I311 a0 10 = v288 := (g314.cell ta0 (by decide +kernel)).trans c289
                      have c331 : I311 a0 11 = v291 := (g314.cell ta0 (by decide +kernel)).trans c292
                      have c332 : I311 a0 12 = v295 := (g314.cell ta0 (by decide +kernel)).trans c296
                      have c333 : I311 a0 8 = v297 := (g314.cell ta0 (by decide +kernel)).trans c298
                      obtain ⟨v334, c335⟩ : ∃ v, I311 a0 9 = v := ⟨_, rfl⟩
                      have b336 := iv15_9 hS321.1 ta0 c335
                      rw [c335] at p317
                      obtain ⟨v337, c338⟩ : ∃ v, I311 a0 13 = v := ⟨_, rfl⟩
                      rw [c338] at p318
                      obtain ⟨v339, c340⟩ : ∃ v, I311 a0 14 = v := ⟨_, rfl⟩
                      rw [c340] at p319
                      rw [c289] at p319
                      exact tr_vret hZ dX12_readAll_59 rfl (by decide) (by decide) ⟨rfl, rfl, rfl, rfl, rfl, hS321, (Or.inr (⟨(by rw [← g106]; simp only [lsF, ↓reduceIte]; repeat' (first | split | omega)), (by (try rw [c335]); first | done | omega), (by (try rw [c338]); rw [← g106]; simp only [lsF, ↓reduceIte]; repeat' (first | split | omega)), (by (try rw [c340]); rw [← g107]; simp only [lsP, ↓reduceIte]; repeat' (first | split | omega)), trivial⟩)), trivial⟩
                · skip
                  refine tr_aload_n dX12_readAll_28 hl66 ?_
                  refine q_iconst dX12_readAll_29 (by decide) ?_
                  intro v341 h342
                  refine q_callVv hE (M' := mX12_flaw) (as := [_]) dX12_readAll_30 lk12_145 inX12_flaw seX12_flaw myX12_flaw (by decide) ⟨by decide, by decide⟩ rfl (kR15 hS237.1 ta0) (Nat.le_of_ble_eq_true rfl) rfl rfl (by decide) (by decide) (fk_X12_flaw hS237.1  ta0 (by omega) (by (try rw [c286]); first | done | omega)) ?_
                  rintro cn' K' N' I343 R344 L345 ⟨rfl, rfl, rfl, rfl, rfl, g346, p349, p350, p351, -⟩
                  have hM352 : NmM I343 R0 L230 a1 (lnQ gB gQ72 gs70) := NmM.kpS hM248 g346 hS237.1 ta1 (by decide +kernel) (by decide +kernel)
                  have hS353 := hS237.tr g346 (by decide +kernel) (by decide +kernel)
                  have c354 : I343 a1 0 = v176 := (g346.cell ta1 (by decide +kernel)).trans c238
                  have c355 : I343 a1 1 = v180 := (g346.cell ta1 (by decide +kernel)).trans c239
                  have c356 : I343 a1 2 = v184 := (g346.cell ta1 (by decide +kernel)).trans c240
                  have c357 : I343 a1 3 = v188 := (g346.cell ta1 (by decide +kernel)).trans c241
                  have c358 : I343 a1 4 = v192 := (g346.cell ta1 (by decide +kernel)).trans c242
                  have c359 : I343 a1 5 = v196 := (g346.cell ta1 (by decide +kernel)).trans c243
                  have c360 : I343 a1 6 = v200 := (g346.cell ta1 (by decide +kernel)).trans c244
                  have c361 : I343 a1 9 = v204 := (g346.cell ta1 (by decide +kernel)).trans c245
                  have c362 : I343 a0 10 = v288 := (g346.cell ta0 (by decide +kernel)).trans c289
                  have c363 : I343 a0 11 = v291 := (g346.cell ta0 (by decide +kernel)).trans c292
                  have c364 : I343 a0 12 = v295 := (g346.cell ta0 (by decide +kernel)).trans c296
                  have c365 : I343 a0 8 = v297 := (g346.cell ta0 (by decide +kernel)).trans c298
                  obtain ⟨v366, c367⟩ : ∃ v, I343 a0 9 = v := ⟨_, rfl⟩
                  have b368 := iv15_9 hS353.1 ta0 c367
                  rw [c367] at p349
                  obtain ⟨v369, c370⟩ : ∃ v, I343 a0 13 = v := ⟨_, rfl⟩
                  rw [c370] at p350
                  obtain ⟨v371, c372⟩ : ∃ v, I343 a0 14 = v := ⟨_, rfl⟩
                  rw [c372] at p351
                  rw [c289] at p351
                  refine tr_aload_n dX12_readAll_33 hl66 ?_
                  refine tr_getR dX12_readAll_34 fl12_188 (kR15 hS353.1 ta0) d2 ?_
                  refine q_getI dX12_readAll_37 fl12_192 (kR14 hS353.1 ta1) c354 ?_
                  refine q_if_eq 53 dX12_readAll_40 (by decide) (fun h373 => ?_) (fun h373 => ?_)
                  · skip
                    exfalso; omega
                  · skip
                    refine tr_aload_n dX12_readAll_43 hl66 ?_
                    refine tr_getR dX12_readAll_44 fl12_188 (kR15 hS353.1 ta0) d2 ?_
                    refine q_getI dX12_readAll_47 fl12_224 (kR14 hS353.1 ta1) c357 ?_
                    refine q_if_ne 59 dX12_readAll_50 (by decide) (fun h374 => ?_) (fun h374 => ?_)
                    · skip
                      exact tr_vret hZ dX12_readAll_59 rfl (by decide) (by decide) ⟨rfl, rfl, rfl, rfl, rfl, hS353, (Or.inr (⟨(by rw [← g106]; simp only [lsF, ↓reduceIte]; repeat' (first | split | omega)), (by (try rw [c367]); first | done | omega), (by (try rw [c370]); rw [← g106]; simp only [lsF, ↓reduceIte]; repeat' (first | split | omega)), (by (try rw [c372]); rw [← g107]; simp only [lsP, ↓reduceIte]; repeat' (first | split | omega)), trivial⟩)), trivial⟩
                    · skip
                      refine tr_aload_n dX12_readAll_53 hl66 ?_
                      refine q_bipush dX12_readAll_54 (by decide +kernel) ?_
                      intro v375 h376
                      refine q_callVv hE (M' := mX12_flaw) (as := [_]) dX12_readAll_56 lk12_145 inX12_flaw seX12_flaw myX12_flaw (by decide) ⟨by decide, by decide⟩ rfl (kR15 hS353.1 ta0) (Nat.le_of_ble_eq_true rfl) rfl rfl (by decide) (by decide) (k_X12_flaw hS353.1 ta0 (by omega)) ?_
                      rintro cn' K' N' I377 R378 L379 ⟨rfl, rfl, rfl, rfl, rfl, g380, p382, p383, w384, -⟩
                      have hS385 := hS353.tr g380 (by decide +kernel) (by decide +kernel)
                      have c386 : I377 a1 0 = v176 := (g380.cell ta1 (by decide +kernel)).trans c354
                      have c387 : I377 a1 1 = v180 := (g380.cell ta1 (by decide +kernel)).trans c355
                      have c388 : I377 a1 2 = v184 := (g380.cell ta1 (by decide +kernel)).trans c356
                      have c389 : I377 a1 3 = v188 := (g380.cell ta1 (by decide +kernel)).trans c357
                      have c390 : I377 a1 4 = v192 := (g380.cell ta1 (by decide +kernel)).trans c358
                      have c391 : I377 a1 5 = v196 := (g380.cell ta1 (by decide +kernel)).trans c359
                      have c392 : I377 a1 6 = v200 := (g380.cell ta1 (by decide +kernel)).trans c360
                      have c393 : I377 a1 9 = v204 := (g380.cell ta1 (by decide +kernel)).trans c361
                      have c394 : I377 a0 10 = v288 := (g380.cell ta0 (by decide +kernel)).trans c362
                      have c395 : I377 a0 11 = v291 := (g380.cell ta0 (by decide +kernel)).trans c363
                      have c396 : I377 a0 12 = v295 := (g380.cell ta0 (by decide +kernel)).trans c364
                      have c397 : I377 a0 8 = v297 := (g380.cell ta0 (by decide +kernel)).trans c365
                      obtain ⟨v398, c399⟩ : ∃ v, I377 a0 9 = v := ⟨_, rfl⟩
                      have b400 := iv15_9 hS385.1 ta0 c399
                      rw [c399] at p382
                      rw [c397] at p383
                      rw [c365] at p383
                      have ov401 := w384.over (by rw [c367]; omega)
                      obtain ⟨v402, c403⟩ : ∃ v, I377 a0 9 = v := ⟨_, rfl⟩
                      have b404 := iv15_9 hS385.1 ta0 c403
                      obtain ⟨v405, c406⟩ : ∃ v, I377 a0 13 = v := ⟨_, rfl⟩
                      obtain ⟨v407, c408⟩ : ∃ v, I377 a0 14 = v := ⟨_, rfl⟩
                      (try rw [c403] at ov401)
                      (try rw [c406] at ov401)
                      (try rw [c408] at ov401)
                      (try rw [c367] at ov401)
                      (try rw [c370] at ov401)
                      (try rw [c372] at ov401)
                      exact tr_vret hZ dX12_readAll_59 rfl (by decide) (by decide) ⟨rfl, rfl, rfl, rfl, rfl, hS385, (Or.inr (⟨(by rw [← g106]; simp only [lsF, ↓reduceIte]; repeat' (first | split | omega)), (by (try rw [c403]); first | done | omega), (by (try rw [c406]); rw [← g106]; simp only [lsF, ↓reduceIte]; repeat' (first | split | omega)), (by (try rw [c408]); rw [← g107]; simp only [lsP, ↓reduceIte]; repeat' (first | split | omega)), trivial⟩)), trivial⟩
              · skip
                exfalso; omega
          · skip
            obtain ⟨v409, c410⟩ : ∃ v, I144 a0 9 = v := ⟨_, rfl⟩
            have b411 := iv15_9 hS151.1 ta0 c410
            rw [c410] at p172
            obtain ⟨v412, c413⟩ : ∃ v, I144 a0 13 = v := ⟨_, rfl⟩
            rw [c413] at p173
            obtain ⟨v414, c415⟩ : ∃ v, I144 a0 14 = v := ⟨_, rfl⟩
            rw [c415] at p174
            refine tr_aload_n dX12_readAll_10 hl66 ?_
            refine q_bipush dX12_readAll_11 (by decide +kernel) ?_
            intro v416 h417
            obtain ⟨v418, c419⟩ : ∃ v, I144 a0 8 = v := ⟨_, rfl⟩
            have b420 := iv15_8 hS151.1 ta0 c419
            refine q_callVi hE (M' := mX12_eatsSign) (as := [_]) dX12_readAll_13 lk12_221 inX12_eatsSign seX12_eatsSign myX12_eatsSign (by decide) ⟨by decide, by decide⟩ rfl (kR15 hS151.1 ta0) (Nat.le_of_ble_eq_true rfl) rfl rfl (by decide) (by decide) (k_X12_eatsSign hS151.1 ta0) ?_
            rintro v425 cn' K' N' I421 R422 L423 ⟨rfl, rfl, rfl, rfl, g424, h426, p427, p428, w429, -⟩
            have hS430 := hS151.tr g424 (by decide +kernel) (by decide +kernel)
            have c431 : I421 a0 13 = v412 := (g424.cell ta0 (by decide +kernel)).trans c413
            have c432 : I421 a0 14 = v414 := (g424.cell ta0 (by decide +kernel)).trans c415
            rw [c410] at p427
            obtain ⟨v433, c434⟩ : ∃ v, I421 a0 8 = v := ⟨_, rfl⟩
            have b435 := iv15_8 hS430.1 ta0 c434
            rw [c434] at p428
            rw [c419] at p428
            have ov436 := w429.over (by rw [c410]; omega)
            obtain ⟨v437, c438⟩ : ∃ v, I421 a0 9 = v := ⟨_, rfl⟩
            have b439 := iv15_9 hS430.1 ta0 c438
            obtain ⟨v440, c441⟩ : ∃ v, I421 a0 13 = v := ⟨_, rfl⟩
            obtain ⟨v442, c443⟩ : ∃ v, I421 a0 14 = v := ⟨_, rfl⟩
            (try rw [c438] at ov436)
            (try rw [c441] at ov436)
            (try rw [c443] at ov436)
            (try rw [c410] at ov436)
            (try rw [c413] at ov436)
            (try rw [c415] at ov436)
            refine tr_istore_n dX12_readAll_16 (by decide) (by decide) ?_
            refine tr_goto 2 dX12_readAll_17 (by decide) ?_
            refine tr_iload_n dX12_readAll_2 rfl ?_
            refine q_if_eq 20 dX12_readAll_3 (by decide) (fun h444 => ?_) (fun h444 => ?_)
            · skip
              refine tr_aload_n dX12_readAll_20 hl66 ?_
              refine q_getI dX12_readAll_21 fl12_99 (kR15 hS430.1 ta0) c438 ?_
              refine q_iconst dX12_readAll_24 (by decide) ?_
              intro v445 h446
              refine q_icmp_eq 33 dX12_readAll_25 (by decide) (fun h447 => ?_) (fun h447 => ?_)
              · skip
                exfalso; omega
              · skip
                refine tr_aload_n dX12_readAll_28 hl66 ?_
                refine q_iconst dX12_readAll_29 (by decide) ?_
                intro v448 h449
                refine q_callVv hE (M' := mX12_flaw) (as := [_]) dX12_readAll_30 lk12_145 inX12_flaw seX12_flaw myX12_flaw (by decide) ⟨by decide, by decide⟩ rfl (kR15 hS430.1 ta0) (Nat.le_of_ble_eq_true rfl) rfl rfl (by decide) (by decide) (k_X12_flaw hS430.1 ta0 (by omega)) ?_
                rintro cn' K' N' I450 R451 L452 ⟨rfl, rfl, rfl, rfl, rfl, g453, p455, p456, w457, -⟩
                have hS458 := hS430.tr g453 (by decide +kernel) (by decide +kernel)
                have c459 : I450 a0 8 = v433 := (g453.cell ta0 (by decide +kernel)).trans c434
                obtain ⟨v460, c461⟩ : ∃ v, I450 a0 9 = v := ⟨_, rfl⟩
                have b462 := iv15_9 hS458.1 ta0 c461
                rw [c461] at p455
                rw [c459] at p456
                rw [c434] at p456
                have ov463 := w457.over (by rw [c438]; omega)
                obtain ⟨v464, c465⟩ : ∃ v, I450 a0 9 = v := ⟨_, rfl⟩
                have b466 := iv15_9 hS458.1 ta0 c465
                obtain ⟨v467, c468⟩ : ∃ v, I450 a0 13 = v := ⟨_, rfl⟩
                obtain ⟨v469, c470⟩ : ∃ v, I450 a0 14 = v := ⟨_, rfl⟩
                (try rw [c465] at ov463)
                (try rw [c468] at ov463)
                (try rw [c470] at ov463)
                (try rw [c438] at ov463)
                (try rw [c441] at ov463)
                (try rw [c443] at ov463)
                refine tr_aload_n dX12_readAll_33 hl66 ?_
                refine tr_getR dX12_readAll_34 fl12_188 (kR15 hS458.1 ta0) d2 ?_
                obtain ⟨v471, c472⟩ : ∃ v, I450 a1 0 = v := ⟨_, rfl⟩
                have b473 := iv14_0 hS458.1 ta1 c472
                refine q_getI dX12_readAll_37 fl12_192 (kR14 hS458.1 ta1) c472 ?_
                refine q_if_eq 53 dX12_readAll_40 (by decide) (fun h474 => ?_) (fun h474 => ?_)
                · skip
                  refine tr_aload_n dX12_readAll_53 hl66 ?_
                  refine q_bipush dX12_readAll_54 (by decide +kernel) ?_
                  intro v475 h476
                  refine q_callVv hE (M' := mX12_flaw) (as := [_]) dX12_readAll_56 lk12_145 inX12_flaw seX12_flaw myX12_flaw (by decide) ⟨by decide, by decide⟩ rfl (kR15 hS458.1 ta0) (Nat.le_of_ble_eq_true rfl) rfl rfl (by decide) (by decide) (k_X12_flaw hS458.1 ta0 (by omega)) ?_
                  rintro cn' K' N' I477 R478 L479 ⟨rfl, rfl, rfl, rfl, rfl, g480, p482, p483, w484, -⟩
                  have hS485 := hS458.tr g480 (by decide +kernel) (by decide +kernel)
                  have c486 : I477 a0 8 = v433 := (g480.cell ta0 (by decide +kernel)).trans c459
                  have c487 : I477 a1 0 = v471 := (g480.cell ta1 (by decide +kernel)).trans c472
                  obtain ⟨v488, c489⟩ : ∃ v, I477 a0 9 = v := ⟨_, rfl⟩
                  have b490 := iv15_9 hS485.1 ta0 c489
                  rw [c489] at p482
                  rw [c486] at p483
                  rw [c459] at p483
                  have ov491 := w484.over (by rw [c465]; omega)
                  obtain ⟨v492, c493⟩ : ∃ v, I477 a0 9 = v := ⟨_, rfl⟩
                  have b494 := iv15_9 hS485.1 ta0 c493
                  obtain ⟨v495, c496⟩ : ∃ v, I477 a0 13 = v := ⟨_, rfl⟩
                  obtain ⟨v497, c498⟩ : ∃ v, I477 a0 14 = v := ⟨_, rfl⟩
                  (try rw [c493] at ov491)
                  (try rw [c496] at ov491)
                  (try rw [c498] at ov491)
                  (try rw [c465] at ov491)
                  (try rw [c468] at ov491)
                  (try rw [c470] at ov491)
                  obtain ⟨v499, c500⟩ : ∃ v, I477 a1 3 = v := ⟨_, rfl⟩
                  have b501 := iv14_3 hS485.1 ta1 c500
                  exact tr_vret hZ dX12_readAll_59 rfl (by decide) (by decide) ⟨rfl, rfl, rfl, rfl, rfl, hS485, (Or.inr (⟨(by rw [← g106]; simp only [lsF, ↓reduceIte]; repeat' (first | split | omega)), (by (try rw [c493]); first | done | omega), (by (try rw [c496]); rw [← g106]; simp only [lsF, ↓reduceIte]; repeat' (first | split | omega)), (by (try rw [c498]); rw [← g107]; simp only [lsP, ↓reduceIte]; repeat' (first | split | omega)), trivial⟩)), trivial⟩
                · skip
                  refine tr_aload_n dX12_readAll_43 hl66 ?_
                  refine tr_getR dX12_readAll_44 fl12_188 (kR15 hS458.1 ta0) d2 ?_
                  obtain ⟨v502, c503⟩ : ∃ v, I450 a1 3 = v := ⟨_, rfl⟩
                  have b504 := iv14_3 hS458.1 ta1 c503
                  refine q_getI dX12_readAll_47 fl12_224 (kR14 hS458.1 ta1) c503 ?_
                  refine q_if_ne 59 dX12_readAll_50 (by decide) (fun h505 => ?_) (fun h505 => ?_)
                  · skip
                    exact tr_vret hZ dX12_readAll_59 rfl (by decide) (by decide) ⟨rfl, rfl, rfl, rfl, rfl, hS458, (Or.inr (⟨(by rw [← g106]; simp only [lsF, ↓reduceIte]; repeat' (first | split | omega)), (by (try rw [c465]); first | done | omega), (by (try rw [c468]); rw [← g106]; simp only [lsF, ↓reduceIte]; repeat' (first | split | omega)), (by (try rw [c470]); rw [← g107]; simp only [lsP, ↓reduceIte]; repeat' (first | split | omega)), trivial⟩)), trivial⟩
                  · skip
                    refine tr_aload_n dX12_readAll_53 hl66 ?_
                    refine q_bipush dX12_readAll_54 (by decide +kernel) ?_
                    intro v506 h507
                    refine q_callVv hE (M' := mX12_flaw) (as := [_]) dX12_readAll_56 lk12_145 inX12_flaw seX12_flaw myX12_flaw (by decide) ⟨by decide, by decide⟩ rfl (kR15 hS458.1 ta0) (Nat.le_of_ble_eq_true rfl) rfl rfl (by decide) (by decide) (k_X12_flaw hS458.1 ta0 (by omega)) ?_
                    rintro cn' K' N' I508 R509 L510 ⟨rfl, rfl, rfl, rfl, rfl, g511, p513, p514, w515, -⟩
                    have hS516 := hS458.tr g511 (by decide +kernel) (by decide +kernel)
                    have c517 : I508 a0 8 = v433 := (g511.cell ta0 (by decide +kernel)).trans c459
                    have c518 : I508 a1 0 = v471 := (g511.cell ta1 (by decide +kernel)).trans c472
                    have c519 : I508 a1 3 = v502 := (g511.cell ta1 (by decide +kernel)).trans c503
                    obtain ⟨v520, c521⟩ : ∃ v, I508 a0 9 = v := ⟨_, rfl⟩
                    have b522 := iv15_9 hS516.1 ta0 c521
                    rw [c521] at p513
                    rw [c517] at p514
                    rw [c459] at p514
                    have ov523 := w515.over (by rw [c465]; omega)
                    obtain ⟨v524, c525⟩ : ∃ v, I508 a0 9 = v := ⟨_, rfl⟩
                    have b526 := iv15_9 hS516.1 ta0 c525
                    obtain ⟨v527, c528⟩ : ∃ v, I508 a0 13 = v := ⟨_, rfl⟩
                    obtain ⟨v529, c530⟩ : ∃ v, I508 a0 14 = v := ⟨_, rfl⟩
                    (try rw [c525] at ov523)
                    (try rw [c528] at ov523)
                    (try rw [c530] at ov523)
                    (try rw [c465] at ov523)
                    (try rw [c468] at ov523)
                    (try rw [c470] at ov523)
                    exact tr_vret hZ dX12_readAll_59 rfl (by decide) (by decide) ⟨rfl, rfl, rfl, rfl, rfl, hS516, (Or.inr (⟨(by rw [← g106]; simp only [lsF, ↓reduceIte]; repeat' (first | split | omega)), (by (try rw [c525]); first | done | omega), (by (try rw [c528]); rw [← g106]; simp only [lsF, ↓reduceIte]; repeat' (first | split | omega)), (by (try rw [c530]); rw [← g107]; simp only [lsP, ↓reduceIte]; repeat' (first | split | omega)), trivial⟩)), trivial⟩
            · skip
              exfalso; omega
  exact lp128 _ _ v63 I0 L0 (0) (901) (Q00) v61 v3 v8 v12 y15 v18 v21 v29 v33 v37 v41 v45 v49 v53 v57 rfl rfl hS0 hL0 hM0 c62 c4 c9 c13 c16 c19 c22 c30 c34 c38 c42 c46 c50 c54 c58 (by first | rfl | (congr 1; omega) | (congr 2 <;> omega)) (by first | rfl | (congr 1; omega) | (congr 2 <;> omega)) (by first | rfl | (congr 1; omega) | (congr 2 <;> omega)) (by omega) (by omega) (by omega) (by omega) (by omega) (by omega) (by omega) (by assumption) (by assumption) (by assumption) (by omega) (by omega) (by omega) (by omega) (by omega) (by omega) (by omega) (by omega) (Or.inl ⟨rfl, rfl⟩) (Nat.lt_succ_self _)
