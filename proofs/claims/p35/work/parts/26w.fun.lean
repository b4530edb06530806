def wik_X12_readLine : List Nat := [896, 897, 898, 899, 900, 901, 902, 903, 904, 905, 968, 969, 970, 971, 972, 973, 974, 3455, 3519, 3583, 3647, 3711, 3775, 3839, 3903, 3967, 4031, 4095, 4159, 4223, 4287, 4351, 4415, 4479, 4543, 4607, 4671, 4799, 4863]
def wrk_X12_readLine : List Nat := []
def wlk_X12_readLine : List Nat := [975, 4735]
set_option maxHeartbeats 4000000 in
theorem fk_X12_readLine {l : Launch} {T : Nat → Nat} {cn : Nat} {K N : Nat → Nat} {I0 : cz_I} {R0 : cz_R} {L0 : cz_L} (hW0 : Wf T cn K N I0 R0 0) (gB : cz_B) (gs : Int) (gQ : Nat → Int) {a0 : Nat} (ta0 : T a0 = 15) (hT : ∀ t, R0 a0 5 = some t → Tx I0 t gB) (hN : ∀ b, R0 a0 4 = some b → NmM I0 R0 L0 b gQ) (pre0 : (I0 a0 9).toInt = (tkM gB gs)) (pre1 : (I0 a0 9).toInt ≤ 4) (pre2 : (I0 a0 10).toInt = (tkS gB gs)) (pre3 : (I0 a0 11).toInt = (tkG gB gs)) (pre4 : (AtW ((tkK gB gs)) ((L0 a0 15).toInt) ((tkW gB gs)))) (pre5 : (AtV ((tkK gB gs)) ((I0 a0 12).toInt) ((tkV gB gs)))) (pre6 : (AtN ((tkK gB gs)) ((I0 a0 8).toInt) ((tkN gB gs)))) (pre7 : (I0 a0 7).toInt = (gB.2)) (pre8 : ∀ b1, R0 a0 4 = some b1 → (I0 b1 0).toInt = (gQ 0)) (pre9 : ∀ b1, R0 a0 4 = some b1 → (I0 b1 1).toInt = (gQ 1)) (pre10 : ∀ b1, R0 a0 4 = some b1 → (I0 b1 2).toInt = (gQ 2)) (pre11 : ∀ b1, R0 a0 4 = some b1 → (I0 b1 3).toInt = (gQ 3)) (pre12 : ∀ b1, R0 a0 4 = some b1 → (I0 b1 4).toInt = (gQ 4)) (pre13 : ∀ b1, R0 a0 4 = some b1 → (I0 b1 5).toInt = (gQ 5)) (pre14 : ∀ b1, R0 a0 4 = some b1 → (I0 b1 6).toInt = (gQ 6)) (pre15 : ∀ b1, R0 a0 4 = some b1 → (I0 b1 9).toInt = (gQ 8)) (pre16 : (Q7M ((gQ 0)) ((gQ 7)))) (nn4 : ∃ b, R0 a0 4 = some b) : ConE l mX12_readLine [.ref a0] cn K N I0 R0 L0 (ca_v (fun cn' K' N' I' R' L' => cn = cn' ∧ K = K' ∧ N = N' ∧ R0 = R' ∧ St T cn K N 0 wik_X12_readLine wrk_X12_readLine I0 R0 I' R0 ∧ (∀ dr, R0 a0 4 = some dr → FrO 14 dr T I0 I') ∧ ((((lnF gB gQ gs) = 0) ∧ (∀ b1, R0 a0 4 = some b1 → (I' b1 0).toInt = (lnQ gB gQ gs 0)) ∧ (∀ b1, R0 a0 4 = some b1 → (I' b1 1).toInt = (lnQ gB gQ gs 1)) ∧ (∀ b1, R0 a0 4 = some b1 → (I' b1 2).toInt = (lnQ gB gQ gs 2)) ∧ (∀ b1, R0 a0 4 = some b1 → (I' b1 3).toInt = (lnQ gB gQ gs 3)) ∧ (∀ b1, R0 a0 4 = some b1 → (I' b1 4).toInt = (lnQ gB gQ gs 4)) ∧ (∀ b1, R0 a0 4 = some b1 → (I' b1 5).toInt = (lnQ gB gQ gs 5)) ∧ (∀ b1, R0 a0 4 = some b1 → (I' b1 6).toInt = (lnQ gB gQ gs 6)) ∧ (∀ b1, R0 a0 4 = some b1 → (I' b1 9).toInt = (lnQ gB gQ gs 8)) ∧ ((I' a0 13).toInt = (I0 a0 13).toInt) ∧ ((I' a0 9).toInt = (tkM gB (lnS gB gQ gs))) ∧ ((I' a0 9).toInt ≤ 4) ∧ ((I' a0 10).toInt = (tkS gB (lnS gB gQ gs))) ∧ ((I' a0 11).toInt = (tkG gB (lnS gB gQ gs))) ∧ ((AtW ((tkK gB (lnS gB gQ gs))) ((L' a0 15).toInt) ((tkW gB (lnS gB gQ gs))))) ∧ ((AtV ((tkK gB (lnS gB gQ gs))) ((I' a0 12).toInt) ((tkV gB (lnS gB gQ gs))))) ∧ ((AtN ((tkK gB (lnS gB gQ gs))) ((I' a0 8).toInt) ((tkN gB (lnS gB gQ gs))))) ∧ LgS T wlk_X12_readLine L0 L' ∧ (∀ b, R0 a0 4 = some b → NmM I' R0 L' b (lnQ gB gQ gs)) ∧ True) ∨ (((lnF gB gQ gs) ≠ 0) ∧ ((I' a0 9).toInt = 5) ∧ ((I' a0 13).toInt = (lnF gB gQ gs)) ∧ ((I' a0 14).toInt = (lnP gB gQ gs)) ∧ True)) ∧ True)) := by
  refine ConE.of (by decide +kernel) rfl (Nat.le_of_ble_eq_true rfl) rfl (fun X hX hZ hE => ?_)
  subst hX
  have hS0 : St T cn K N 0 wik_X12_readLine wrk_X12_readLine I0 R0 I0 R0 := St.rf0 hW0
  have hL0 : LgS T wlk_X12_readLine L0 L0 := LgS.rf0
  obtain ⟨a1, d2⟩ := nn4
  have ta1 : T a1 = 14 := hW0.rsN ta0 rfl d2
  obtain ⟨v3, c4⟩ : ∃ v, I0 a0 9 = v := ⟨_, rfl⟩
  have b5 := iv15_9 hS0.1 ta0 c4
  have p6 := pre0
  rw [c4] at p6
  have p7 := pre1
  rw [c4] at p7
  obtain ⟨v8, c9⟩ : ∃ v, I0 a0 10 = v := ⟨_, rfl⟩
  have b10 := iv15_10 hS0.1 ta0 c9
  have p11 := pre2
  rw [c9] at p11
  obtain ⟨v12, c13⟩ : ∃ v, I0 a0 11 = v := ⟨_, rfl⟩
  have p14 := pre3
  rw [c13] at p14
  obtain ⟨y15, c16⟩ : ∃ v, L0 a0 15 = v := ⟨_, rfl⟩
  have p17 := pre4
  rw [c16] at p17
  obtain ⟨v18, c19⟩ : ∃ v, I0 a0 12 = v := ⟨_, rfl⟩
  have p20 := pre5
  rw [c19] at p20
  obtain ⟨v21, c22⟩ : ∃ v, I0 a0 8 = v := ⟨_, rfl⟩
  have b23 := iv15_8 hS0.1 ta0 c22
  have p24 := pre6
  rw [c22] at p24
  obtain ⟨v25, c26⟩ : ∃ v, I0 a0 7 = v := ⟨_, rfl⟩
  have b27 := iv15_7 hW0 ta0 c26
  have p28 := pre7
  rw [c26] at p28
  obtain ⟨v29, c30⟩ : ∃ v, I0 a1 0 = v := ⟨_, rfl⟩
  have b31 := iv14_0 hS0.1 ta1 c30
  have p32 := pre8 _ d2
  rw [c30] at p32
  obtain ⟨v33, c34⟩ : ∃ v, I0 a1 1 = v := ⟨_, rfl⟩
  have b35 := iv14_1 hS0.1 ta1 c34
  have p36 := pre9 _ d2
  rw [c34] at p36
  obtain ⟨v37, c38⟩ : ∃ v, I0 a1 2 = v := ⟨_, rfl⟩
  have b39 := iv14_2 hS0.1 ta1 c38
  have p40 := pre10 _ d2
  rw [c38] at p40
  obtain ⟨v41, c42⟩ : ∃ v, I0 a1 3 = v := ⟨_, rfl⟩
  have b43 := iv14_3 hS0.1 ta1 c42
  have p44 := pre11 _ d2
  rw [c42] at p44
  obtain ⟨v45, c46⟩ : ∃ v, I0 a1 4 = v := ⟨_, rfl⟩
  have b47 := iv14_4 hS0.1 ta1 c46
  have p48 := pre12 _ d2
  rw [c46] at p48
  obtain ⟨v49, c50⟩ : ∃ v, I0 a1 5 = v := ⟨_, rfl⟩
  have b51 := iv14_5 hS0.1 ta1 c50
  have p52 := pre13 _ d2
  rw [c50] at p52
  obtain ⟨v53, c54⟩ : ∃ v, I0 a1 6 = v := ⟨_, rfl⟩
  have b55 := iv14_6 hS0.1 ta1 c54
  have p56 := pre14 _ d2
  rw [c54] at p56
  obtain ⟨v57, c58⟩ : ∃ v, I0 a1 9 = v := ⟨_, rfl⟩
  have b59 := iv14_9 hS0.1 ta1 c58
  have p60 := pre15 _ d2
  rw [c58] at p60
  have p61 := pre16
  obtain ⟨v62, c63⟩ : ∃ v, I0 a0 13 = v := ⟨_, rfl⟩
  have hM0 := hN _ d2
  have hO0 : FrO 14 a1 T I0 I0 := FrO.rf
  refine tr_aload_n dX12_readLine_0 rfl ?_
  refine tr_ldcS dX12_readLine_1 ld12_164 ?_
  refine q_callVi hE (M' := mX12_isWord) (as := [_]) dX12_readLine_3 lk12_138 inX12_isWord seX12_isWord myX12_isWord (by decide) ⟨by decide, by decide⟩ rfl (kR15 hS0.1 ta0) (Nat.le_of_ble_eq_true rfl) rfl rfl (by decide) (by decide) (fk_X12_isWord hS0.1 (gB) (gs) ta0 (by decide) (by (try rw [c4]); first | done | with_reducible assumption | omega) (by (try rw [c16]); first | done | assumption)) ?_
  rintro v69 cn' K' N' I64 R65 L66 ⟨rfl, rfl, rfl, rfl, rfl, rfl, h70, dj71, -⟩
  (try rw [pk_1] at dj71)
  rcases dj71 with ⟨p72, p73, p74, -⟩ | ⟨p75, p76, -⟩
  · skip
    have sr77 : srt gB gs = 10 := srt_10 (by exact om_ee8a1e2d p73) (by exact om_46584e8e p74)
    refine q_if_eq 16 dX12_readLine_6 (by decide) (fun h78 => ?_) (fun h78 => ?_)
    · skip
      exfalso; exact om_3624102b p72 h78
    · skip
      refine tr_aload_n dX12_readLine_9 rfl ?_
      refine q_callVv hE (M' := mX12_readAlp) (as := []) dX12_readLine_10 lk12_227 inX12_readAlp seX12_readAlp myX12_readAlp (by decide) ⟨by decide, by decide⟩ rfl (kR15 hS0.1 ta0) (Nat.le_of_ble_eq_true rfl) rfl rfl (by decide) (by decide) (fk_X12_readAlp hS0.1 (gB) (gs) (gQ) ta0 (TxA.kp hT hS0 ta0 rfl rfl rfl (by decide +kernel) (by decide +kernel)) (fun b hb => (Option.some.inj (d2.symm.trans hb)) ▸ hM0) (by (try rw [c4]); first | done | with_reducible assumption | omega) (by (try rw [c4]); first | done | with_reducible assumption | omega) (by (try rw [c9]); first | done | with_reducible assumption | omega) (by (try rw [c13]); first | done | with_reducible assumption | omega) (by (try rw [c16]); first | done | assumption) (by (try rw [c19]); first | done | assumption) (by (try rw [c22]); first | done | assumption) (by (try rw [c26]); first | done | with_reducible assumption | omega) (fun q0 z0 => by obtain rfl := Option.some.inj ((d2).symm.trans z0); (try rw [c30]); first | done | with_reducible assumption | omega) (fun q0 z0 => by obtain rfl := Option.some.inj ((d2).symm.trans z0); (try rw [c34]); first | done | with_reducible assumption | omega) (fun q0 z0 => by obtain rfl := Option.some.inj ((d2).symm.trans z0); (try rw [c38]); first | done | with_reducible assumption | omega) (fun q0 z0 => by obtain rfl := Option.some.inj ((d2).symm.trans z0); (try rw [c42]); first | done | with_reducible assumption | omega) (fun q0 z0 => by obtain rfl := Option.some.inj ((d2).symm.trans z0); (try rw [c46]); first | done | with_reducible assumption | omega) (fun q0 z0 => by obtain rfl := Option.some.inj ((d2).symm.trans z0); (try rw [c50]); first | done | with_reducible assumption | omega) (fun q0 z0 => by obtain rfl := Option.some.inj ((d2).symm.trans z0); (try rw [c54]); first | done | with_reducible assumption | omega) (fun q0 z0 => by obtain rfl := Option.some.inj ((d2).symm.trans z0); (try rw [c58]); first | done | with_reducible assumption | omega) (by first | done | assumption) (by first | done | with_reducible assumption | omega) (by first | done | with_reducible assumption | omega) ⟨_, d2⟩) ?_
      rintro cn' K' N' I79 R80 L81 ⟨rfl, rfl, rfl, rfl, g82, rp85, dj86, -⟩
      have hS87 := hS0.tr g82 (by decide +kernel) (by decide +kernel)
      have c88 : I79 a1 2 = v37 := (g82.cell ta1 (by decide +kernel)).trans c38
      have c89 : I79 a1 3 = v41 := (g82.cell ta1 (by decide +kernel)).trans c42
      have c90 : I79 a1 4 = v45 := (g82.cell ta1 (by decide +kernel)).trans c46
      have c91 : I79 a1 5 = v49 := (g82.cell ta1 (by decide +kernel)).trans c50
      have c92 : I79 a1 6 = v53 := (g82.cell ta1 (by decide +kernel)).trans c54
      have c93 : I79 a1 9 = v57 := (g82.cell ta1 (by decide +kernel)).trans c58
      have hO94 : FrO 14 a1 T I0 I79 := hO0.tr (rp85 _ d2)
      rcases dj86 with ⟨p95, p96, p97, p98, p99, p100, p101, p102, p103, p104, p105, p106, p107, p108, p109, p110, p111, gl112, rp113, -⟩ | ⟨p114, p115, p116, p117, -⟩
      · skip
        have hL118 := hL0.tr gl112 (by decide +kernel)
        obtain ⟨v119, c120⟩ : ∃ v, I79 a1 0 = v := ⟨_, rfl⟩
        have b121 := iv14_0 hS87.1 ta1 c120
        have p122 := p96 _ d2
        clear p96
        rw [c120] at p122
        obtain ⟨v123, c124⟩ : ∃ v, I79 a1 1 = v := ⟨_, rfl⟩
        have b125 := iv14_1 hS87.1 ta1 c124
        have p126 := p97 _ d2
        clear p97
        rw [c124] at p126
        have p127 := p98 _ d2
        clear p98
        rw [c88] at p127
        have p128 := p99 _ d2
        clear p99
        rw [c89] at p128
        have p129 := p100 _ d2
        clear p100
        rw [c90] at p129
        have p130 := p101 _ d2
        clear p101
        rw [c91] at p130
        have p131 := p102 _ d2
        clear p102
        rw [c92] at p131
        have p132 := p103 _ d2
        clear p103
        rw [c93] at p132
        obtain ⟨v133, c134⟩ : ∃ v, I79 a0 13 = v := ⟨_, rfl⟩
        rw [c134] at p104
        rw [c63] at p104
        obtain ⟨v135, c136⟩ : ∃ v, I79 a0 9 = v := ⟨_, rfl⟩
        have b137 := iv15_9 hS87.1 ta0 c136
        rw [c136] at p105
        rw [c136] at p106
        obtain ⟨v138, c139⟩ : ∃ v, I79 a0 10 = v := ⟨_, rfl⟩
        have b140 := iv15_10 hS87.1 ta0 c139
        rw [c139] at p107
        obtain ⟨v141, c142⟩ : ∃ v, I79 a0 11 = v := ⟨_, rfl⟩
        rw [c142] at p108
        obtain ⟨y143, c144⟩ : ∃ v, L81 a0 15 = v := ⟨_, rfl⟩
        rw [c144] at p109
        obtain ⟨v145, c146⟩ : ∃ v, I79 a0 12 = v := ⟨_, rfl⟩
        rw [c146] at p110
        obtain ⟨v147, c148⟩ : ∃ v, I79 a0 8 = v := ⟨_, rfl⟩
        have b149 := iv15_8 hS87.1 ta0 c148
        rw [c148] at p111
        refine tr_goto 186 dX12_readLine_13 (by decide) ?_
        obtain ⟨v150, c151⟩ : ∃ v, I79 a0 14 = v := ⟨_, rfl⟩
        exact tr_vret hZ dX12_readLine_186 rfl (by decide) (by decide) ⟨rfl, rfl, rfl, rfl, rfl, hS87, (fun dr hd => (Option.some.inj (d2.symm.trans hd)) ▸ hO94), (Or.inl ⟨(by first | done | with_reducible assumption | omega), (fun q0 z0 => by obtain rfl := Option.some.inj ((d2).symm.trans z0); (try rw [c120]); first | done | with_reducible assumption | omega), (fun q0 z0 => by obtain rfl := Option.some.inj ((d2).symm.trans z0); (try rw [c124]); first | done | with_reducible assumption | omega), (fun q0 z0 => by obtain rfl := Option.some.inj ((d2).symm.trans z0); (try rw [c88]); first | done | with_reducible assumption | omega), (fun q0 z0 => by obtain rfl := Option.some.inj ((d2).symm.trans z0); (try rw [c89]); first | done | with_reducible assumption | omega), (fun q0 z0 => by obtain rfl := Option.some.inj ((d2).symm.trans z0); (try rw [c90]); first | done | with_reducible assumption | omega), (fun q0 z0 => by obtain rfl := Option.some.inj ((d2).symm.trans z0); (try rw [c91]); first | done | with_reducible assumption | omega), (fun q0 z0 => by obtain rfl := Option.some.inj ((d2).symm.trans z0); (try rw [c92]); first | done | with_reducible assumption | omega), (fun q0 z0 => by obtain rfl := Option.some.inj ((d2).symm.trans z0); (try rw [c93]); first | done | with_reducible assumption | omega), (by (try rw [c134]); (try rw [c63]); first | done | with_reducible assumption | omega), (by (try rw [c136]); first | done | with_reducible assumption | omega), (by (try rw [c136]); first | done | with_reducible assumption | omega), (by (try rw [c139]); first | done | with_reducible assumption | omega), (by (try rw [c142]); first | done | with_reducible assumption | omega), (by (try rw [c144]); first | done | assumption), (by (try rw [c146]); first | done | assumption), (by (try rw [c148]); first | done | assumption), hL118, (fun b hb => (Option.some.inj (d2.symm.trans hb)) ▸ (rp113 _ d2)), trivial⟩), trivial⟩
      · skip
        obtain ⟨v152, c153⟩ : ∃ v, I79 a0 9 = v := ⟨_, rfl⟩
        have b154 := iv15_9 hS87.1 ta0 c153
        rw [c153] at p115
        obtain ⟨v155, c156⟩ : ∃ v, I79 a0 13 = v := ⟨_, rfl⟩
        rw [c156] at p116
        obtain ⟨v157, c158⟩ : ∃ v, I79 a0 14 = v := ⟨_, rfl⟩
        rw [c158] at p117
        refine tr_goto 186 dX12_readLine_13 (by decide) ?_
        obtain ⟨v159, c160⟩ : ∃ v, I79 a1 0 = v := ⟨_, rfl⟩
        have b161 := iv14_0 hS87.1 ta1 c160
        obtain ⟨v162, c163⟩ : ∃ v, I79 a1 1 = v := ⟨_, rfl⟩
        have b164 := iv14_1 hS87.1 ta1 c163
        obtain ⟨v165, c166⟩ : ∃ v, I79 a0 10 = v := ⟨_, rfl⟩
        have b167 := iv15_10 hS87.1 ta0 c166
        obtain ⟨v168, c169⟩ : ∃ v, I79 a0 11 = v := ⟨_, rfl⟩
        obtain ⟨y170, c171⟩ : ∃ v, L81 a0 15 = v := ⟨_, rfl⟩
        obtain ⟨v172, c173⟩ : ∃ v, I79 a0 12 = v := ⟨_, rfl⟩
        obtain ⟨v174, c175⟩ : ∃ v, I79 a0 8 = v := ⟨_, rfl⟩
        have b176 := iv15_8 hS87.1 ta0 c175
        exact tr_vret hZ dX12_readLine_186 rfl (by decide) (by decide) ⟨rfl, rfl, rfl, rfl, rfl, hS87, (fun dr hd => (Option.some.inj (d2.symm.trans hd)) ▸ hO94), (Or.inr (⟨(by first | done | with_reducible assumption | omega), (by (try rw [c153]); first | done | with_reducible assumption | omega), (by (try rw [c156]); first | done | with_reducible assumption | omega), (by (try rw [c158]); first | done | with_reducible assumption | omega), trivial⟩)), trivial⟩
  · skip
    refine q_if_eq 16 dX12_readLine_6 (by decide) (fun h177 => ?_) (fun h177 => ?_)
    · skip
      refine tr_aload_n dX12_readLine_16 rfl ?_
      refine tr_ldcS dX12_readLine_17 ld12_166 ?_
      refine q_callVi hE (M' := mX12_isWord) (as := [_]) dX12_readLine_19 lk12_138 inX12_isWord seX12_isWord myX12_isWord (by decide) ⟨by decide, by decide⟩ rfl (kR15 hS0.1 ta0) (Nat.le_of_ble_eq_true rfl) rfl rfl (by decide) (by decide) (fk_X12_isWord hS0.1 (gB) (gs) ta0 (by decide) (by (try rw [c4]); first | done | with_reducible assumption | omega) (by (try rw [c16]); first | done | assumption)) ?_
      rintro v183 cn' K' N' I178 R179 L180 ⟨rfl, rfl, rfl, rfl, rfl, rfl, h184, dj185, -⟩
      (try rw [pk_7] at dj185)
      rcases dj185 with ⟨p186, p187, p188, -⟩ | ⟨p189, p190, -⟩
      · skip
        have sr191 : srt gB gs = 0 := srt_0 (by exact om_ee8a1e2d p187) (by exact om_3b285b84 p188)
        refine q_if_eq 33 dX12_readLine_22 (by decide) (fun h192 => ?_) (fun h192 => ?_)
        · skip
          exfalso; exact om_3624102b p186 h192
        · skip
          refine tr_aload_n dX12_readLine_25 rfl ?_
          refine q_iconst dX12_readLine_26 (by decide) ?_
          intro v193 h194
          refine q_callVv hE (M' := mX12_readEvent) (as := [_]) dX12_readLine_27 lk12_230 inX12_readEvent seX12_readEvent myX12_readEvent (by decide) ⟨by decide, by decide⟩ rfl (kR15 hS0.1 ta0) (Nat.le_of_ble_eq_true rfl) rfl rfl (by decide) (by decide) (fk_X12_readEvent hS0.1 (gB) (gs) (gQ) ta0 (by exact om_e8b39ab5 h194) (TxA.kp hT hS0 ta0 rfl rfl rfl (by decide +kernel) (by decide +kernel)) (fun b hb => (Option.some.inj (d2.symm.trans hb)) ▸ hM0) (by (try rw [c4]); first | done | with_reducible assumption | omega) (by (try rw [c4]); first | done | with_reducible assumption | omega) (by (try rw [c9]); first | done | with_reducible assumption | omega) (by (try rw [c13]); first | done | with_reducible assumption | omega) (by (try rw [c16]); first | done | assumption) (by (try rw [c19]); first | done | assumption) (by (try rw [c22]); first | done | assumption) (by (try rw [c26]); first | done | with_reducible assumption | omega) (fun q0 z0 => by obtain rfl := Option.some.inj ((d2).symm.trans z0); (try rw [c30]); first | done | with_reducible assumption | omega) (fun q0 z0 => by obtain rfl := Option.some.inj ((d2).symm.trans z0); (try rw [c34]); first | done | with_reducible assumption | omega) (fun q0 z0 => by obtain rfl := Option.some.inj ((d2).symm.trans z0); (try rw [c38]); first | done | with_reducible assumption | omega) (fun q0 z0 => by obtain rfl := Option.some.inj ((d2).symm.trans z0); (try rw [c42]); first | done | with_reducible assumption | omega) (fun q0 z0 => by obtain rfl := Option.some.inj ((d2).symm.trans z0); (try rw [c46]); first | done | with_reducible assumption | omega) (fun q0 z0 => by obtain rfl := Option.some.inj ((d2).symm.trans z0); (try rw [c50]); first | done | with_reducible assumption | omega) (fun q0 z0 => by obtain rfl := Option.some.inj ((d2).symm.trans z0); (try rw [c54]); first | done | with_reducible assumption | omega) (fun q0 z0 => by obtain rfl := Option.some.inj ((d2).symm.trans z0); (try rw [c58]); first | done | with_reducible assumption | omega) (by first | done | assumption) (by first | done | with_reducible assumption | omega) (by first | done | with_reducible assumption | exact om_5bac22bd sr191 h194) ⟨_, d2⟩) ?_
          rintro cn' K' N' I195 R196 L197 ⟨rfl, rfl, rfl, rfl, g198, rp201, dj202, -⟩
          have hS203 := hS0.tr g198 (by decide +kernel) (by decide +kernel)
          have c204 : I195 a1 0 = v29 := (g198.cell ta1 (by decide +kernel)).trans c30
          have c205 : I195 a1 1 = v33 := (g198.cell ta1 (by decide +kernel)).trans c34
          have c206 : I195 a1 3 = v41 := (g198.cell ta1 (by decide +kernel)).trans c42
          have c207 : I195 a1 4 = v45 := (g198.cell ta1 (by decide +kernel)).trans c46
          have c208 : I195 a1 5 = v49 := (g198.cell ta1 (by decide +kernel)).trans c50
          have c209 : I195 a1 6 = v53 := (g198.cell ta1 (by decide +kernel)).trans c54
          have c210 : I195 a1 9 = v57 := (g198.cell ta1 (by decide +kernel)).trans c58
          have hO211 : FrO 14 a1 T I0 I195 := hO0.tr (rp201 _ d2)
          rcases dj202 with ⟨p212, p213, p214, p215, p216, p217, p218, p219, p220, p221, p222, p223, p224, p225, p226, p227, p228, gl229, rp230, -⟩ | ⟨p231, p232, p233, p234, -⟩
          · skip
            have hL235 := hL0.tr gl229 (by decide +kernel)
            have p236 := p213 _ d2
            clear p213
            rw [c204] at p236
            have p237 := p214 _ d2
            clear p214
            rw [c205] at p237
            obtain ⟨v238, c239⟩ : ∃ v, I195 a1 2 = v := ⟨_, rfl⟩
            have b240 := iv14_2 hS203.1 ta1 c239
            have p241 := p215 _ d2
            clear p215
            rw [c239] at p241
            have p242 := p216 _ d2
            clear p216
            rw [c206] at p242
            have p243 := p217 _ d2
            clear p217
            rw [c207] at p243
            have p244 := p218 _ d2
            clear p218
            rw [c208] at p244
            have p245 := p219 _ d2
            clear p219
            rw [c209] at p245
            have p246 := p220 _ d2
            clear p220
            rw [c210] at p246
            obtain ⟨v247, c248⟩ : ∃ v, I195 a0 13 = v := ⟨_, rfl⟩
            rw [c248] at p221
            rw [c63] at p221
            obtain ⟨v249, c250⟩ : ∃ v, I195 a0 9 = v := ⟨_, rfl⟩
            have b251 := iv15_9 hS203.1 ta0 c250
            rw [c250] at p222
            rw [c250] at p223
            obtain ⟨v252, c253⟩ : ∃ v, I195 a0 10 = v := ⟨_, rfl⟩
            have b254 := iv15_10 hS203.1 ta0 c253
            rw [c253] at p224
            obtain ⟨v255, c256⟩ : ∃ v, I195 a0 11 = v := ⟨_, rfl⟩
            rw [c256] at p225
            obtain ⟨y257, c258⟩ : ∃ v, L197 a0 15 = v := ⟨_, rfl⟩
            rw [c258] at p226
            obtain ⟨v259, c260⟩ : ∃ v, I195 a0 12 = v := ⟨_, rfl⟩
            rw [c260] at p227
            obtain ⟨v261, c262⟩ : ∃ v, I195 a0 8 = v := ⟨_, rfl⟩
            have b263 := iv15_8 hS203.1 ta0 c262
            rw [c262] at p228
            refine tr_goto 186 dX12_readLine_30 (by decide) ?_
            obtain ⟨v264, c265⟩ : ∃ v, I195 a0 14 = v := ⟨_, rfl⟩
            exact tr_vret hZ dX12_readLine_186 rfl (by decide) (by decide) ⟨rfl, rfl, rfl, rfl, rfl, hS203, (fun dr hd => (Option.some.inj (d2.symm.trans hd)) ▸ hO211), (Or.inl ⟨(by first | done | with_reducible assumption | omega), (fun q0 z0 => by obtain rfl := Option.some.inj ((d2).symm.trans z0); (try rw [c204]); first | done | with_reducible assumption | omega), (fun q0 z0 => by obtain rfl := Option.some.inj ((d2).symm.trans z0); (try rw [c205]); first | done | with_reducible assumption | omega), (fun q0 z0 => by obtain rfl := Option.some.inj ((d2).symm.trans z0); (try rw [c239]); first | done | with_reducible assumption | omega), (fun q0 z0 => by obtain rfl := Option.some.inj ((d2).symm.trans z0); (try rw [c206]); first | done | with_reducible assumption | omega), (fun q0 z0 => by obtain rfl := Option.some.inj ((d2).symm.trans z0); (try rw [c207]); first | done | with_reducible assumption | omega), (fun q0 z0 => by obtain rfl := Option.some.inj ((d2).symm.trans z0); (try rw [c208]); first | done | with_reducible assumption | omega), (fun q0 z0 => by obtain rfl := Option.some.inj ((d2).symm.trans z0); (try rw [c209]); first | done | with_reducible assumption | omega), (fun q0 z0 => by obtain rfl := Option.some.inj ((d2).symm.trans z0); (try rw [c210]); first | done | with_reducible assumption | omega), (by (try rw [c248]); (try rw [c63]); first | done | with_reducible assumption | omega), (by (try rw [c250]); first | done | with_reducible assumption | omega), (by (try rw [c250]); first | done | with_reducible assumption | omega), (by (try rw [c253]); first | done | with_reducible assumption | omega), (by (try rw [c256]); first | done | with_reducible assumption | omega), (by (try rw [c258]); first | done | assumption), (by (try rw [c260]); first | done | assumption), (by (try rw [c262]); first | done | assumption), hL235, (fun b hb => (Option.some.inj (d2.symm.trans hb)) ▸ (rp230 _ d2)), trivial⟩), trivial⟩
          · skip
            obtain ⟨v266, c267⟩ : ∃ v, I195 a0 9 = v := ⟨_, rfl⟩
            have b268 := iv15_9 hS203.1 ta0 c267
            rw [c267] at p232
            obtain ⟨v269, c270⟩ : ∃ v, I195 a0 13 = v := ⟨_, rfl⟩
            rw [c270] at p233
            obtain ⟨v271, c272⟩ : ∃ v, I195 a0 14 = v := ⟨_, rfl⟩
            rw [c272] at p234
            refine tr_goto 186 dX12_readLine_30 (by decide) ?_
            obtain ⟨v273, c274⟩ : ∃ v, I195 a1 2 = v := ⟨_, rfl⟩
            have b275 := iv14_2 hS203.1 ta1 c274
            obtain ⟨v276, c277⟩ : ∃ v, I195 a0 10 = v := ⟨_, rfl⟩
            have b278 := iv15_10 hS203.1 ta0 c277
            obtain ⟨v279, c280⟩ : ∃ v, I195 a0 11 = v := ⟨_, rfl⟩
            obtain ⟨y281, c282⟩ : ∃ v, L197 a0 15 = v := ⟨_, rfl⟩
            obtain ⟨v283, c284⟩ : ∃ v, I195 a0 12 = v := ⟨_, rfl⟩
            obtain ⟨v285, c286⟩ : ∃ v, I195 a0 8 = v := ⟨_, rfl⟩
            have b287 := iv15_8 hS203.1 ta0 c286
            exact tr_vret hZ dX12_readLine_186 rfl (by decide) (by decide) ⟨rfl, rfl, rfl, rfl, rfl, hS203, (fun dr hd => (Option.some.inj (d2.symm.trans hd)) ▸ hO211), (Or.inr (⟨(by first | done | with_reducible assumption | omega), (by (try rw [c267]); first | done | with_reducible assumption | omega), (by (try rw [c270]); first | done | with_reducible assumption | omega), (by (try rw [c272]); first | done | with_reducible assumption | omega), trivial⟩)), trivial⟩
      · skip
        refine q_if_eq 33 dX12_readLine_22 (by decide) (fun h288 => ?_) (fun h288 => ?_)
        · skip
          refine tr_aload_n dX12_readLine_33 rfl ?_
          refine tr_ldcS dX12_readLine_34 ld12_168 ?_
          refine q_callVi hE (M' := mX12_isWord) (as := [_]) dX12_readLine_36 lk12_138 inX12_isWord seX12_isWord myX12_isWord (by decide) ⟨by decide, by decide⟩ rfl (kR15 hS0.1 ta0) (Nat.le_of_ble_eq_true rfl) rfl rfl (by decide) (by decide) (fk_X12_isWord hS0.1 (gB) (gs) ta0 (by decide) (by (try rw [c4]); first | done | with_reducible assumption | omega) (by (try rw [c16]); first | done | assumption)) ?_
          rintro v294 cn' K' N' I289 R290 L291 ⟨rfl, rfl, rfl, rfl, rfl, rfl, h295, dj296, -⟩
          (try rw [pk_11] at dj296)
          rcases dj296 with ⟨p297, p298, p299, -⟩ | ⟨p300, p301, -⟩
          · skip
            have sr302 : srt gB gs = 1 := srt_1 (by exact om_ee8a1e2d p298) (by exact om_cc231fd3 p299)
            refine q_if_eq 50 dX12_readLine_39 (by decide) (fun h303 => ?_) (fun h303 => ?_)
            · skip
              exfalso; exact om_3624102b p297 h303
            · skip
              refine tr_aload_n dX12_readLine_42 rfl ?_
              refine q_iconst dX12_readLine_43 (by decide) ?_
              intro v304 h305
              refine q_callVv hE (M' := mX12_readEvent) (as := [_]) dX12_readLine_44 lk12_230 inX12_readEvent seX12_readEvent myX12_readEvent (by decide) ⟨by decide, by decide⟩ rfl (kR15 hS0.1 ta0) (Nat.le_of_ble_eq_true rfl) rfl rfl (by decide) (by decide) (fk_X12_readEvent hS0.1 (gB) (gs) (gQ) ta0 (by exact om_62c8e017 h305) (TxA.kp hT hS0 ta0 rfl rfl rfl (by decide +kernel) (by decide +kernel)) (fun b hb => (Option.some.inj (d2.symm.trans hb)) ▸ hM0) (by (try rw [c4]); first | done | with_reducible assumption | omega) (by (try rw [c4]); first | done | with_reducible assumption | omega) (by (try rw [c9]); first | done | with_reducible assumption | omega) (by (try rw [c13]); first | done | with_reducible assumption | omega) (by (try rw [c16]); first | done | assumption) (by (try rw [c19]); first | done | assumption) (by (try rw [c22]); first | done | assumption) (by (try rw [c26]); first | done | with_reducible assumption | omega) (fun q0 z0 => by obtain rfl := Option.some.inj ((d2).symm.trans z0); (try rw [c30]); first | done | with_reducible assumption | omega) (fun q0 z0 => by obtain rfl := Option.some.inj ((d2).symm.trans z0); (try rw [c34]); first | done | with_reducible assumption | omega) (fun q0 z0 => by obtain rfl := Option.some.inj ((d2).symm.trans z0); (try rw [c38]); first | done | with_reducible assumption | omega) (fun q0 z0 => by obtain rfl := Option.some.inj ((d2).symm.trans z0); (try rw [c42]); first | done | with_reducible assumption | omega) (fun q0 z0 => by obtain rfl := Option.some.inj ((d2).symm.trans z0); (try rw [c46]); first | done | with_reducible assumption | omega) (fun q0 z0 => by obtain rfl := Option.some.inj ((d2).symm.trans z0); (try rw [c50]); first | done | with_reducible assumption | omega) (fun q0 z0 => by obtain rfl := Option.some.inj ((d2).symm.trans z0); (try rw [c54]); first | done | with_reducible assumption | omega) (fun q0 z0 => by obtain rfl := Option.some.inj ((d2).symm.trans z0); (try rw [c58]); first | done | with_reducible assumption | omega) (by first | done | assumption) (by first | done | with_reducible assumption | omega) (by first | done | with_reducible assumption | exact om_3345b898 sr302 h305) ⟨_, d2⟩) ?_
              rintro cn' K' N' I306 R307 L308 ⟨rfl, rfl, rfl, rfl, g309, rp312, dj313, -⟩
              have hS314 := hS0.tr g309 (by decide +kernel) (by decide +kernel)
              have c315 : I306 a1 0 = v29 := (g309.cell ta1 (by decide +kernel)).trans c30
              have c316 : I306 a1 1 = v33 := (g309.cell ta1 (by decide +kernel)).trans c34
              have c317 : I306 a1 3 = v41 := (g309.cell ta1 (by decide +kernel)).trans c42
              have c318 : I306 a1 4 = v45 := (g309.cell ta1 (by decide +kernel)).trans c46
              have c319 : I306 a1 5 = v49 := (g309.cell ta1 (by decide +kernel)).trans c50
              have c320 : I306 a1 6 = v53 := (g309.cell ta1 (by decide +kernel)).trans c54
              have c321 : I306 a1 9 = v57 := (g309.cell ta1 (by decide +kernel)).trans c58
              have hO322 : FrO 14 a1 T I0 I306 := hO0.tr (rp312 _ d2)
              rcases dj313 with ⟨p323, p324, p325, p326, p327, p328, p329, p330, p331, p332, p333, p334, p335, p336, p337, p338, p339, gl340, rp341, -⟩ | ⟨p342, p343, p344, p345, -⟩
              · skip
                have hL346 := hL0.tr gl340 (by decide +kernel)
                have p347 := p324 _ d2
                clear p324
                rw [c315] at p347
                have p348 := p325 _ d2
                clear p325
                rw [c316] at p348
                obtain ⟨v349, c350⟩ : ∃ v, I306 a1 2 = v := ⟨_, rfl⟩
                have b351 := iv14_2 hS314.1 ta1 c350
                have p352 := p326 _ d2
                clear p326
                rw [c350] at p352
                have p353 := p327 _ d2
                clear p327
                rw [c317] at p353
                have p354 := p328 _ d2
                clear p328
                rw [c318] at p354
                have p355 := p329 _ d2
                clear p329
                rw [c319] at p355
                have p356 := p330 _ d2
                clear p330
                rw [c320] at p356
                have p357 := p331 _ d2
                clear p331
                rw [c321] at p357
                obtain ⟨v358, c359⟩ : ∃ v, I306 a0 13 = v := ⟨_, rfl⟩
                rw [c359] at p332
                rw [c63] at p332
                obtain ⟨v360, c361⟩ : ∃ v, I306 a0 9 = v := ⟨_, rfl⟩
                have b362 := iv15_9 hS314.1 ta0 c361
                rw [c361] at p333
                rw [c361] at p334
                obtain ⟨v363, c364⟩ : ∃ v, I306 a0 10 = v := ⟨_, rfl⟩
                have b365 := iv15_10 hS314.1 ta0 c364
                rw [c364] at p335
                obtain ⟨v366, c367⟩ : ∃ v, I306 a0 11 = v := ⟨_, rfl⟩
                rw [c367] at p336
                obtain ⟨y368, c369⟩ : ∃ v, L308 a0 15 = v := ⟨_, rfl⟩
                rw [c369] at p337
                obtain ⟨v370, c371⟩ : ∃ v, I306 a0 12 = v := ⟨_, rfl⟩
                rw [c371] at p338
                obtain ⟨v372, c373⟩ : ∃ v, I306 a0 8 = v := ⟨_, rfl⟩
                have b374 := iv15_8 hS314.1 ta0 c373
                rw [c373] at p339
                refine tr_goto 186 dX12_readLine_47 (by decide) ?_
                obtain ⟨v375, c376⟩ : ∃ v, I306 a0 14 = v := ⟨_, rfl⟩
                exact tr_vret hZ dX12_readLine_186 rfl (by decide) (by decide) ⟨rfl, rfl, rfl, rfl, rfl, hS314, (fun dr hd => (Option.some.inj (d2.symm.trans hd)) ▸ hO322), (Or.inl ⟨(by first | done | with_reducible assumption | omega), (fun q0 z0 => by obtain rfl := Option.some.inj ((d2).symm.trans z0); (try rw [c315]); first | done | with_reducible assumption | omega), (fun q0 z0 => by obtain rfl := Option.some.inj ((d2).symm.trans z0); (try rw [c316]); first | done | with_reducible assumption | omega), (fun q0 z0 => by obtain rfl := Option.some.inj ((d2).symm.trans z0); (try rw [c350]); first | done | with_reducible assumption | omega), (fun q0 z0 => by obtain rfl := Option.some.inj ((d2).symm.trans z0); (try rw [c317]); first | done | with_reducible assumption | omega), (fun q0 z0 => by obtain rfl := Option.some.inj ((d2).symm.trans z0); (try rw [c318]); first | done | with_reducible assumption | omega), (fun q0 z0 => by obtain rfl := Option.some.inj ((d2).symm.trans z0); (try rw [c319]); first | done | with_reducible assumption | omega), (fun q0 z0 => by obtain rfl := Option.some.inj ((d2).symm.trans z0); (try rw [c320]); first | done | with_reducible assumption | omega), (fun q0 z0 => by obtain rfl := Option.some.inj ((d2).symm.trans z0); (try rw [c321]); first | done | with_reducible assumption | omega), (by (try rw [c359]); (try rw [c63]); first | done | with_reducible assumption | omega), (by (try rw [c361]); first | done | with_reducible assumption | omega), (by (try rw [c361]); first | done | with_reducible assumption | omega), (by (try rw [c364]); first | done | with_reducible assumption | omega), (by (try rw [c367]); first | done | with_reducible assumption | omega), (by (try rw [c369]); first | done | assumption), (by (try rw [c371]); first | done | assumption), (by (try rw [c373]); first | done | assumption), hL346, (fun b hb => (Option.some.inj (d2.symm.trans hb)) ▸ (rp341 _ d2)), trivial⟩), trivial⟩
              · skip
                obtain ⟨v377, c378⟩ : ∃ v, I306 a0 9 = v := ⟨_, rfl⟩
                have b379 := iv15_9 hS314.1 ta0 c378
                rw [c378] at p343
                obtain ⟨v380, c381⟩ : ∃ v, I306 a0 13 = v := ⟨_, rfl⟩
                rw [c381] at p344
                obtain ⟨v382, c383⟩ : ∃ v, I306 a0 14 = v := ⟨_, rfl⟩
                rw [c383] at p345
                refine tr_goto 186 dX12_readLine_47 (by decide) ?_
                obtain ⟨v384, c385⟩ : ∃ v, I306 a1 2 = v := ⟨_, rfl⟩
                have b386 := iv14_2 hS314.1 ta1 c385
                obtain ⟨v387, c388⟩ : ∃ v, I306 a0 10 = v := ⟨_, rfl⟩
                have b389 := iv15_10 hS314.1 ta0 c388
                obtain ⟨v390, c391⟩ : ∃ v, I306 a0 11 = v := ⟨_, rfl⟩
                obtain ⟨y392, c393⟩ : ∃ v, L308 a0 15 = v := ⟨_, rfl⟩
                obtain ⟨v394, c395⟩ : ∃ v, I306 a0 12 = v := ⟨_, rfl⟩
                obtain ⟨v396, c397⟩ : ∃ v, I306 a0 8 = v := ⟨_, rfl⟩
                have b398 := iv15_8 hS314.1 ta0 c397
                exact tr_vret hZ dX12_readLine_186 rfl (by decide) (by decide) ⟨rfl, rfl, rfl, rfl, rfl, hS314, (fun dr hd => (Option.some.inj (d2.symm.trans hd)) ▸ hO322), (Or.inr (⟨(by first | done | with_reducible assumption | omega), (by (try rw [c378]); first | done | with_reducible assumption | omega), (by (try rw [c381]); first | done | with_reducible assumption | omega), (by (try rw [c383]); first | done | with_reducible assumption | omega), trivial⟩)), trivial⟩
          · skip
            refine q_if_eq 50 dX12_readLine_39 (by decide) (fun h399 => ?_) (fun h399 => ?_)
            · skip
              refine tr_aload_n dX12_readLine_50 rfl ?_
              refine tr_ldcS dX12_readLine_51 ld12_170 ?_
              refine q_callVi hE (M' := mX12_isWord) (as := [_]) dX12_readLine_53 lk12_138 inX12_isWord seX12_isWord myX12_isWord (by decide) ⟨by decide, by decide⟩ rfl (kR15 hS0.1 ta0) (Nat.le_of_ble_eq_true rfl) rfl rfl (by decide) (by decide) (fk_X12_isWord hS0.1 (gB) (gs) ta0 (by decide) (by (try rw [c4]); first | done | with_reducible assumption | omega) (by (try rw [c16]); first | done | assumption)) ?_
              rintro v405 cn' K' N' I400 R401 L402 ⟨rfl, rfl, rfl, rfl, rfl, rfl, h406, dj407, -⟩
              (try rw [pk_17] at dj407)
              rcases dj407 with ⟨p408, p409, p410, -⟩ | ⟨p411, p412, -⟩
              · skip
                have sr413 : srt gB gs = 2 := srt_2 (by exact om_ee8a1e2d p409) (by exact om_fdfade78 p410)
                refine q_if_eq 67 dX12_readLine_56 (by decide) (fun h414 => ?_) (fun h414 => ?_)
                · skip
                  exfalso; exact om_3624102b p408 h414
                · skip
                  refine tr_aload_n dX12_readLine_59 rfl ?_
                  refine q_iconst dX12_readLine_60 (by decide) ?_
                  intro v415 h416
                  refine q_callVv hE (M' := mX12_readEvent) (as := [_]) dX12_readLine_61 lk12_230 inX12_readEvent seX12_readEvent myX12_readEvent (by decide) ⟨by decide, by decide⟩ rfl (kR15 hS0.1 ta0) (Nat.le_of_ble_eq_true rfl) rfl rfl (by decide) (by decide) (fk_X12_readEvent hS0.1 (gB) (gs) (gQ) ta0 (by exact om_c87b88ad h416) (TxA.kp hT hS0 ta0 rfl rfl rfl (by decide +kernel) (by decide +kernel)) (fun b hb => (Option.some.inj (d2.symm.trans hb)) ▸ hM0) (by (try rw [c4]); first | done | with_reducible assumption | omega) (by (try rw [c4]); first | done | with_reducible assumption | omega) (by (try rw [c9]); first | done | with_reducible assumption | omega) (by (try rw [c13]); first | done | with_reducible assumption | omega) (by (try rw [c16]); first | done | assumption) (by (try rw [c19]); first | done | assumption) (by (try rw [c22]); first | done | assumption) (by (try rw [c26]); first | done | with_reducible assumption | omega) (fun q0 z0 => by obtain rfl := Option.some.inj ((d2).symm.trans z0); (try rw [c30]); first | done | with_reducible assumption | omega) (fun q0 z0 => by obtain rfl := Option.some.inj ((d2).symm.trans z0); (try rw [c34]); first | done | with_reducible assumption | omega) (fun q0 z0 => by obtain rfl := Option.some.inj ((d2).symm.trans z0); (try rw [c38]); first | done | with_reducible assumption | omega) (fun q0 z0 => by obtain rfl := Option.some.inj ((d2).symm.trans z0); (try rw [c42]); first | done | with_reducible assumption | omega) (fun q0 z0 => by obtain rfl := Option.some.inj ((d2).symm.trans z0); (try rw [c46]); first | done | with_reducible assumption | omega) (fun q0 z0 => by obtain rfl := Option.some.inj ((d2).symm.trans z0); (try rw [c50]); first | done | with_reducible assumption | omega) (fun q0 z0 => by obtain rfl := Option.some.inj ((d2).symm.trans z0); (try rw [c54]); first | done | with_reducible assumption | omega) (fun q0 z0 => by obtain rfl := Option.some.inj ((d2).symm.trans z0); (try rw [c58]); first | done | with_reducible assumption | omega) (by first | done | assumption) (by first | done | with_reducible assumption | omega) (by first | done | with_reducible assumption | exact om_c17e5678 sr413 h416) ⟨_, d2⟩) ?_
                  rintro cn' K' N' I417 R418 L419 ⟨rfl, rfl, rfl, rfl, g420, rp423, dj424, -⟩
                  have hS425 := hS0.tr g420 (by decide +kernel) (by decide +kernel)
                  have c426 : I417 a1 0 = v29 := (g420.cell ta1 (by decide +kernel)).trans c30
                  have c427 : I417 a1 1 = v33 := (g420.cell ta1 (by decide +kernel)).trans c34
                  have c428 : I417 a1 3 = v41 := (g420.cell ta1 (by decide +kernel)).trans c42
                  have c429 : I417 a1 4 = v45 := (g420.cell ta1 (by decide +kernel)).trans c46
                  have c430 : I417 a1 5 = v49 := (g420.cell ta1 (by decide +kernel)).trans c50
                  have c431 : I417 a1 6 = v53 := (g420.cell ta1 (by decide +kernel)).trans c54
                  have c432 : I417 a1 9 = v57 := (g420.cell ta1 (by decide +kernel)).trans c58
                  have hO433 : FrO 14 a1 T I0 I417 := hO0.tr (rp423 _ d2)
                  rcases dj424 with ⟨p434, p435, p436, p437, p438, p439, p440, p441, p442, p443, p444, p445, p446, p447, p448, p449, p450, gl451, rp452, -⟩ | ⟨p453, p454, p455, p456, -⟩
                  · skip
                    have hL457 := hL0.tr gl451 (by decide +kernel)
                    have p458 := p435 _ d2
                    clear p435
                    rw [c426] at p458
                    have p459 := p436 _ d2
                    clear p436
                    rw [c427] at p459
                    obtain ⟨v460, c461⟩ : ∃ v, I417 a1 2 = v := ⟨_, rfl⟩
                    have b462 := iv14_2 hS425.1 ta1 c461
                    have p463 := p437 _ d2
                    clear p437
                    rw [c461] at p463
                    have p464 := p438 _ d2
                    clear p438
                    rw [c428] at p464
                    have p465 := p439 _ d2
                    clear p439
                    rw [c429] at p465
                    have p466 := p440 _ d2
                    clear p440
                    rw [c430] at p466
                    have p467 := p441 _ d2
                    clear p441
                    rw [c431] at p467
                    have p468 := p442 _ d2
                    clear p442
                    rw [c432] at p468
                    obtain ⟨v469, c470⟩ : ∃ v, I417 a0 13 = v := ⟨_, rfl⟩
                    rw [c470] at p443
                    rw [c63] at p443
                    obtain ⟨v471, c472⟩ : ∃ v, I417 a0 9 = v := ⟨_, rfl⟩
                    have b473 := iv15_9 hS425.1 ta0 c472
                    rw [c472] at p444
                    rw [c472] at p445
                    obtain ⟨v474, c475⟩ : ∃ v, I417 a0 10 = v := ⟨_, rfl⟩
                    have b476 := iv15_10 hS425.1 ta0 c475
                    rw [c475] at p446
                    obtain ⟨v477, c478⟩ : ∃ v, I417 a0 11 = v := ⟨_, rfl⟩
                    rw [c478] at p447
                    obtain ⟨y479, c480⟩ : ∃ v, L419 a0 15 = v := ⟨_, rfl⟩
                    rw [c480] at p448
                    obtain ⟨v481, c482⟩ : ∃ v, I417 a0 12 = v := ⟨_, rfl⟩
                    rw [c482] at p449
                    obtain ⟨v483, c484⟩ : ∃ v, I417 a0 8 = v := ⟨_, rfl⟩
                    have b485 := iv15_8 hS425.1 ta0 c484
                    rw [c484] at p450
                    refine tr_goto 186 dX12_readLine_64 (by decide) ?_
                    obtain ⟨v486, c487⟩ : ∃ v, I417 a0 14 = v := ⟨_, rfl⟩
                    exact tr_vret hZ dX12_readLine_186 rfl (by decide) (by decide) ⟨rfl, rfl, rfl, rfl, rfl, hS425, (fun dr hd => (Option.some.inj (d2.symm.trans hd)) ▸ hO433), (Or.inl ⟨(by first | done | with_reducible assumption | omega), (fun q0 z0 => by obtain rfl := Option.some.inj ((d2).symm.trans z0); (try rw [c426]); first | done | with_reducible assumption | omega), (fun q0 z0 => by obtain rfl := Option.some.inj ((d2).symm.trans z0); (try rw [c427]); first | done | with_reducible assumption | omega), (fun q0 z0 => by obtain rfl := Option.some.inj ((d2).symm.trans z0); (try rw [c461]); first | done | with_reducible assumption | omega), (fun q0 z0 => by obtain rfl := Option.some.inj ((d2).symm.trans z0); (try rw [c428]); first | done | with_reducible assumption | omega), (fun q0 z0 => by obtain rfl := Option.some.inj ((d2).symm.trans z0); (try rw [c429]); first | done | with_reducible assumption | omega), (fun q0 z0 => by obtain rfl := Option.some.inj ((d2).symm.trans z0); (try rw [c430]); first | done | with_reducible assumption | omega), (fun q0 z0 => by obtain rfl := Option.some.inj ((d2).symm.trans z0); (try rw [c431]); first | done | with_reducible assumption | omega), (fun q0 z0 => by obtain rfl := Option.some.inj ((d2).symm.trans z0); (try rw [c432]); first | done | with_reducible assumption | omega), (by (try rw [c470]); (try rw [c63]); first | done | with_reducible assumption | omega), (by (try rw [c472]); first | done | with_reducible assumption | omega), (by (try rw [c472]); first | done | with_reducible assumption | omega), (by (try rw [c475]); first | done | with_reducible assumption | omega), (by (try rw [c478]); first | done | with_reducible assumption | omega), (by (try rw [c480]); first | done | assumption), (by (try rw [c482]); first | done | assumption), (by (try rw [c484]); first | done | assumption), hL457, (fun b hb => (Option.some.inj (d2.symm.trans hb)) ▸ (rp452 _ d2)), trivial⟩), trivial⟩
                  · skip
                    obtain ⟨v488, c489⟩ : ∃ v, I417 a0 9 = v := ⟨_, rfl⟩
                    have b490 := iv15_9 hS425.1 ta0 c489
                    rw [c489] at p454
                    obtain ⟨v491, c492⟩ : ∃ v, I417 a0 13 = v := ⟨_, rfl⟩
                    rw [c492] at p455
                    obtain ⟨v493, c494⟩ : ∃ v, I417 a0 14 = v := ⟨_, rfl⟩
                    rw [c494] at p456
                    refine tr_goto 186 dX12_readLine_64 (by decide) ?_
                    obtain ⟨v495, c496⟩ : ∃ v, I417 a1 2 = v := ⟨_, rfl⟩
                    have b497 := iv14_2 hS425.1 ta1 c496
                    obtain ⟨v498, c499⟩ : ∃ v, I417 a0 10 = v := ⟨_, rfl⟩
                    have b500 := iv15_10 hS425.1 ta0 c499
                    obtain ⟨v501, c502⟩ : ∃ v, I417 a0 11 = v := ⟨_, rfl⟩
                    obtain ⟨y503, c504⟩ : ∃ v, L419 a0 15 = v := ⟨_, rfl⟩
                    obtain ⟨v505, c506⟩ : ∃ v, I417 a0 12 = v := ⟨_, rfl⟩
                    obtain ⟨v507, c508⟩ : ∃ v, I417 a0 8 = v := ⟨_, rfl⟩
                    have b509 := iv15_8 hS425.1 ta0 c508
                    exact tr_vret hZ dX12_readLine_186 rfl (by decide) (by decide) ⟨rfl, rfl, rfl, rfl, rfl, hS425, (fun dr hd => (Option.some.inj (d2.symm.trans hd)) ▸ hO433), (Or.inr (⟨(by first | done | with_reducible assumption | omega), (by (try rw [c489]); first | done | with_reducible assumption | omega), (by (try rw [c492]); first | done | with_reducible assumption | omega), (by (try rw [c494]); first | done | with_reducible assumption | omega), trivial⟩)), trivial⟩
              · skip
                refine q_if_eq 67 dX12_readLine_56 (by decide) (fun h510 => ?_) (fun h510 => ?_)
                · skip
                  refine tr_aload_n dX12_readLine_67 rfl ?_
                  refine tr_ldcS dX12_readLine_68 ld12_172 ?_
                  refine q_callVi hE (M' := mX12_isWord) (as := [_]) dX12_readLine_70 lk12_138 inX12_isWord seX12_isWord myX12_isWord (by decide) ⟨by decide, by decide⟩ rfl (kR15 hS0.1 ta0) (Nat.le_of_ble_eq_true rfl) rfl rfl (by decide) (by decide) (fk_X12_isWord hS0.1 (gB) (gs) ta0 (by decide) (by (try rw [c4]); first | done | with_reducible assumption | omega) (by (try rw [c16]); first | done | assumption)) ?_
                  rintro v516 cn' K' N' I511 R512 L513 ⟨rfl, rfl, rfl, rfl, rfl, rfl, h517, dj518, -⟩
                  (try rw [pk_22] at dj518)
                  rcases dj518 with ⟨p519, p520, p521, -⟩ | ⟨p522, p523, -⟩
                  · skip
                    have sr524 : srt gB gs = 3 := srt_3 (by exact om_ee8a1e2d p520) (by exact om_747cac53 p521)
                    refine q_if_eq 84 dX12_readLine_73 (by decide) (fun h525 => ?_) (fun h525 => ?_)
                    · skip
                      exfalso; exact om_3624102b p519 h525
                    · skip
                      refine tr_aload_n dX12_readLine_76 rfl ?_
                      refine q_iconst dX12_readLine_77 (by decide) ?_
                      intro v526 h527
                      refine q_callVv hE (M' := mX12_readEvent) (as := [_]) dX12_readLine_78 lk12_230 inX12_readEvent seX12_readEvent myX12_readEvent (by decide) ⟨by decide, by decide⟩ rfl (kR15 hS0.1 ta0) (Nat.le_of_ble_eq_true rfl) rfl rfl (by decide) (by decide) (fk_X12_readEvent hS0.1 (gB) (gs) (gQ) ta0 (by exact om_c518451c h527) (TxA.kp hT hS0 ta0 rfl rfl rfl (by decide +kernel) (by decide +kernel)) (fun b hb => (Option.some.inj (d2.symm.trans hb)) ▸ hM0) (by (try rw [c4]); first | done | with_reducible assumption | omega) (by (try rw [c4]); first | done | with_reducible assumption | omega) (by (try rw [c9]); first | done | with_reducible assumption | omega) (by (try rw [c13]); first | done | with_reducible assumption | omega) (by (try rw [c16]); first | done | assumption) (by (try rw [c19]); first | done | assumption) (by (try rw [c22]); first | done | assumption) (by (try rw [c26]); first | done | with_reducible assumption | omega) (fun q0 z0 => by obtain rfl := Option.some.inj ((d2).symm.trans z0); (try rw [c30]); first | done | with_reducible assumption | omega) (fun q0 z0 => by obtain rfl := Option.some.inj ((d2).symm.trans z0); (try rw [c34]); first | done | with_reducible assumption | omega) (fun q0 z0 => by obtain rfl := Option.some.inj ((d2).symm.trans z0); (try rw [c38]); first | done | with_reducible assumption | omega) (fun q0 z0 => by obtain rfl := Option.some.inj ((d2).symm.trans z0); (try rw [c42]); first | done | with_reducible assumption | omega) (fun q0 z0 => by obtain rfl := Option.some.inj ((d2).symm.trans z0); (try rw [c46]); first | done | with_reducible assumption | omega) (fun q0 z0 => by obtain rfl := Option.some.inj ((d2).symm.trans z0); (try rw [c50]); first | done | with_reducible assumption | omega) (fun q0 z0 => by obtain rfl := Option.some.inj ((d2).symm.trans z0); (try rw [c54]); first | done | with_reducible assumption | omega) (fun q0 z0 => by obtain rfl := Option.some.inj ((d2).symm.trans z0); (try rw [c58]); first | done | with_reducible assumption | omega) (by first | done | assumption) (by first | done | with_reducible assumption | omega) (by first | done | with_reducible assumption | exact om_4684038f sr524 h527) ⟨_, d2⟩) ?_
                      rintro cn' K' N' I528 R529 L530 ⟨rfl, rfl, rfl, rfl, g531, rp534, dj535, -⟩
                      have hS536 := hS0.tr g531 (by decide +kernel) (by decide +kernel)
                      have c537 : I528 a1 0 = v29 := (g531.cell ta1 (by decide +kernel)).trans c30
                      have c538 : I528 a1 1 = v33 := (g531.cell ta1 (by decide +kernel)).trans c34
                      have c539 : I528 a1 3 = v41 := (g531.cell ta1 (by decide +kernel)).trans c42
                      have c540 : I528 a1 4 = v45 := (g531.cell ta1 (by decide +kernel)).trans c46
                      have c541 : I528 a1 5 = v49 := (g531.cell ta1 (by decide +kernel)).trans c50
                      have c542 : I528 a1 6 = v53 := (g531.cell ta1 (by decide +kernel)).trans c54
                      have c543 : I528 a1 9 = v57 := (g531.cell ta1 (by decide +kernel)).trans c58
                      have hO544 : FrO 14 a1 T I0 I528 := hO0.tr (rp534 _ d2)
                      rcases dj535 with ⟨p545, p546, p547, p548, p549, p550, p551, p552, p553, p554, p555, p556, p557, p558, p559, p560, p561, gl562, rp563, -⟩ | ⟨p564, p565, p566, p567, -⟩
                      · skip
                        have hL568 := hL0.tr gl562 (by decide +kernel)
                        have p569 := p546 _ d2
                        clear p546
                        rw [c537] at p569
                        have p570 := p547 _ d2
                        clear p547
                        rw [c538] at p570
                        obtain ⟨v571, c572⟩ : ∃ v, I528 a1 2 = v := ⟨_, rfl⟩
                        have b573 := iv14_2 hS536.1 ta1 c572
                        have p574 := p548 _ d2
                        clear p548
                        rw [c572] at p574
                        have p575 := p549 _ d2
                        clear p549
                        rw [c539] at p575
                        have p576 := p550 _ d2
                        clear p550
                        rw [c540] at p576
                        have p577 := p551 _ d2
                        clear p551
                        rw [c541] at p577
                        have p578 := p552 _ d2
                        clear p552
                        rw [c542] at p578
                        have p579 := p553 _ d2
                        clear p553
                        rw [c543] at p579
                        obtain ⟨v580, c581⟩ : ∃ v, I528 a0 13 = v := ⟨_, rfl⟩
                        rw [c581] at p554
                        rw [c63] at p554
                        obtain ⟨v582, c583⟩ : ∃ v, I528 a0 9 = v := ⟨_, rfl⟩
                        have b584 := iv15_9 hS536.1 ta0 c583
                        rw [c583] at p555
                        rw [c583] at p556
                        obtain ⟨v585, c586⟩ : ∃ v, I528 a0 10 = v := ⟨_, rfl⟩
                        have b587 := iv15_10 hS536.1 ta0 c586
                        rw [c586] at p557
                        obtain ⟨v588, c589⟩ : ∃ v, I528 a0 11 = v := ⟨_, rfl⟩
                        rw [c589] at p558
                        obtain ⟨y590, c591⟩ : ∃ v, L530 a0 15 = v := ⟨_, rfl⟩
                        rw [c591] at p559
                        obtain ⟨v592, c593⟩ : ∃ v, I528 a0 12 = v := ⟨_, rfl⟩
                        rw [c593] at p560
                        obtain ⟨v594, c595⟩ : ∃ v, I528 a0 8 = v := ⟨_, rfl⟩
                        have b596 := iv15_8 hS536.1 ta0 c595
                        rw [c595] at p561
                        refine tr_goto 186 dX12_readLine_81 (by decide) ?_
                        obtain ⟨v597, c598⟩ : ∃ v, I528 a0 14 = v := ⟨_, rfl⟩
                        exact tr_vret hZ dX12_readLine_186 rfl (by decide) (by decide) ⟨rfl, rfl, rfl, rfl, rfl, hS536, (fun dr hd => (Option.some.inj (d2.symm.trans hd)) ▸ hO544), (Or.inl ⟨(by first | done | with_reducible assumption | omega), (fun q0 z0 => by obtain rfl := Option.some.inj ((d2).symm.trans z0); (try rw [c537]); first | done | with_reducible assumption | omega), (fun q0 z0 => by obtain rfl := Option.some.inj ((d2).symm.trans z0); (try rw [c538]); first | done | with_reducible assumption | omega), (fun q0 z0 => by obtain rfl := Option.some.inj ((d2).symm.trans z0); (try rw [c572]); first | done | with_reducible assumption | omega), (fun q0 z0 => by obtain rfl := Option.some.inj ((d2).symm.trans z0); (try rw [c539]); first | done | with_reducible assumption | omega), (fun q0 z0 => by obtain rfl := Option.some.inj ((d2).symm.trans z0); (try rw [c540]); first | done | with_reducible assumption | omega), (fun q0 z0 => by obtain rfl := Option.some.inj ((d2).symm.trans z0); (try rw [c541]); first | done | with_reducible assumption | omega), (fun q0 z0 => by obtain rfl := Option.some.inj ((d2).symm.trans z0); (try rw [c542]); first | done | with_reducible assumption | omega), (fun q0 z0 => by obtain rfl := Option.some.inj ((d2).symm.trans z0); (try rw [c543]); first | done | with_reducible assumption | omega), (by (try rw [c581]); (try rw [c63]); first | done | with_reducible assumption | omega), (by (try rw [c583]); first | done | with_reducible assumption | omega), (by (try rw [c583]); first | done | with_reducible assumption | omega), (by (try rw [c586]); first | done | with_reducible assumption | omega), (by (try rw [c589]); first | done | with_reducible assumption | omega), (by (try rw [c591]); first | done | assumption), (by (try rw [c593]); first | done | assumption), (by (try rw [c595]); first | done | assumption), hL568, (fun b hb => (Option.some.inj (d2.symm.trans hb)) ▸ (rp563 _ d2)), trivial⟩), trivial⟩
                      · skip
                        obtain ⟨v599, c600⟩ : ∃ v, I528 a0 9 = v := ⟨_, rfl⟩
                        have b601 := iv15_9 hS536.1 ta0 c600
                        rw [c600] at p565
                        obtain ⟨v602, c603⟩ : ∃ v, I528 a0 13 = v := ⟨_, rfl⟩
                        rw [c603] at p566
                        obtain ⟨v604, c605⟩ : ∃ v, I528 a0 14 = v := ⟨_, rfl⟩
                        rw [c605] at p567
                        refine tr_goto 186 dX12_readLine_81 (by decide) ?_
                        obtain ⟨v606, c607⟩ : ∃ v, I528 a1 2 = v := ⟨_, rfl⟩
                        have b608 := iv14_2 hS536.1 ta1 c607
                        obtain ⟨v609, c610⟩ : ∃ v, I528 a0 10 = v := ⟨_, rfl⟩
                        have b611 := iv15_10 hS536.1 ta0 c610
                        obtain ⟨v612, c613⟩ : ∃ v, I528 a0 11 = v := ⟨_, rfl⟩
                        obtain ⟨y614, c615⟩ : ∃ v, L530 a0 15 = v := ⟨_, rfl⟩
                        obtain ⟨v616, c617⟩ : ∃ v, I528 a0 12 = v := ⟨_, rfl⟩
                        obtain ⟨v618, c619⟩ : ∃ v, I528 a0 8 = v := ⟨_, rfl⟩
                        have b620 := iv15_8 hS536.1 ta0 c619
                        exact tr_vret hZ dX12_readLine_186 rfl (by decide) (by decide) ⟨rfl, rfl, rfl, rfl, rfl, hS536, (fun dr hd => (Option.some.inj (d2.symm.trans hd)) ▸ hO544), (Or.inr (⟨(by first | done | with_reducible assumption | omega), (by (try rw [c600]); first | done | with_reducible assumption | omega), (by (try rw [c603]); first | done | with_reducible assumption | omega), (by (try rw [c605]); first | done | with_reducible assumption | omega), trivial⟩)), trivial⟩
                  · skip
                    refine q_if_eq 84 dX12_readLine_73 (by decide) (fun h621 => ?_) (fun h621 => ?_)
                    · skip
                      refine tr_aload_n dX12_readLine_84 rfl ?_
                      refine tr_ldcS dX12_readLine_85 ld12_174 ?_
                      refine q_callVi hE (M' := mX12_isWord) (as := [_]) dX12_readLine_87 lk12_138 inX12_isWord seX12_isWord myX12_isWord (by decide) ⟨by decide, by decide⟩ rfl (kR15 hS0.1 ta0) (Nat.le_of_ble_eq_true rfl) rfl rfl (by decide) (by decide) (fk_X12_isWord hS0.1 (gB) (gs) ta0 (by decide) (by (try rw [c4]); first | done | with_reducible assumption | omega) (by (try rw [c16]); first | done | assumption)) ?_
                      rintro v627 cn' K' N' I622 R623 L624 ⟨rfl, rfl, rfl, rfl, rfl, rfl, h628, dj629, -⟩
                      (try rw [pk_4] at dj629)
                      rcases dj629 with ⟨p630, p631, p632, -⟩ | ⟨p633, p634, -⟩
                      · skip
                        have sr635 : srt gB gs = 4 := srt_4 (by exact om_ee8a1e2d p631) (by exact om_2ccd9767 p632)
                        refine q_if_eq 101 dX12_readLine_90 (by decide) (fun h636 => ?_) (fun h636 => ?_)
                        · skip
                          exfalso; exact om_3624102b p630 h636
                        · skip
                          refine tr_aload_n dX12_readLine_93 rfl ?_
                          refine q_iconst dX12_readLine_94 (by decide) ?_
                          intro v637 h638
                          refine q_callVv hE (M' := mX12_readEvent) (as := [_]) dX12_readLine_95 lk12_230 inX12_readEvent seX12_readEvent myX12_readEvent (by decide) ⟨by decide, by decide⟩ rfl (kR15 hS0.1 ta0) (Nat.le_of_ble_eq_true rfl) rfl rfl (by decide) (by decide) (fk_X12_readEvent hS0.1 (gB) (gs) (gQ) ta0 (by exact om_93068803 h638) (TxA.kp hT hS0 ta0 rfl rfl rfl (by decide +kernel) (by decide +kernel)) (fun b hb => (Option.some.inj (d2.symm.trans hb)) ▸ hM0) (by (try rw [c4]); first | done | with_reducible assumption | omega) (by (try rw [c4]); first | done | with_reducible assumption | omega) (by (try rw [c9]); first | done | with_reducible assumption | omega) (by (try rw [c13]); first | done | with_reducible assumption | omega) (by (try rw [c16]); first | done | assumption) (by (try rw [c19]); first | done | assumption) (by (try rw [c22]); first | done | assumption) (by (try rw [c26]); first | done | with_reducible assumption | omega) (fun q0 z0 => by obtain rfl := Option.some.inj ((d2).symm.trans z0); (try rw [c30]); first | done | with_reducible assumption | omega) (fun q0 z0 => by obtain rfl := Option.some.inj ((d2).symm.trans z0); (try rw [c34]); first | done | with_reducible assumption | omega) (fun q0 z0 => by obtain rfl := Option.some.inj ((d2).symm.trans z0); (try rw [c38]); first | done | with_reducible assumption | omega) (fun q0 z0 => by obtain rfl := Option.some.inj ((d2).symm.trans z0); (try rw [c42]); first | done | with_reducible assumption | omega) (fun q0 z0 => by obtain rfl := Option.some.inj ((d2).symm.trans z0); (try rw [c46]); first | done | with_reducible assumption | omega) (fun q0 z0 => by obtain rfl := Option.some.inj ((d2).symm.trans z0); (try rw [c50]); first | done | with_reducible assumption | omega) (fun q0 z0 => by obtain rfl := Option.some.inj ((d2).symm.trans z0); (try rw [c54]); first | done | with_reducible assumption | omega) (fun q0 z0 => by obtain rfl := Option.some.inj ((d2).symm.trans z0); (try rw [c58]); first | done | with_reducible assumption | omega) (by first | done | assumption) (by first | done | with_reducible assumption | omega) (by first | done | with_reducible assumption | exact om_46d5da87 sr635 h638) ⟨_, d2⟩) ?_
                          rintro cn' K' N' I639 R640 L641 ⟨rfl, rfl, rfl, rfl, g642, rp645, dj646, -⟩
                          have hS647 := hS0.tr g642 (by decide +kernel) (by decide +kernel)
                          have c648 : I639 a1 0 = v29 := (g642.cell ta1 (by decide +kernel)).trans c30
                          have c649 : I639 a1 1 = v33 := (g642.cell ta1 (by decide +kernel)).trans c34
                          have c650 : I639 a1 3 = v41 := (g642.cell ta1 (by decide +kernel)).trans c42
                          have c651 : I639 a1 4 = v45 := (g642.cell ta1 (by decide +kernel)).trans c46
                          have c652 : I639 a1 5 = v49 := (g642.cell ta1 (by decide +kernel)).trans c50
                          have c653 : I639 a1 6 = v53 := (g642.cell ta1 (by decide +kernel)).trans c54
                          have c654 : I639 a1 9 = v57 := (g642.cell ta1 (by decide +kernel)).trans c58
                          have hO655 : FrO 14 a1 T I0 I639 := hO0.tr (rp645 _ d2)
                          rcases dj646 with ⟨p656, p657, p658, p659, p660, p661, p662, p663, p664, p665, p666, p667, p668, p669, p670, p671, p672, gl673, rp674, -⟩ | ⟨p675, p676, p677, p678, -⟩
                          · skip
                            have hL679 := hL0.tr gl673 (by decide +kernel)
                            have p680 := p657 _ d2
                            clear p657
                            rw [c648] at p680
                            have p681 := p658 _ d2
                            clear p658
                            rw [c649] at p681
                            obtain ⟨v682, c683⟩ : ∃ v, I639 a1 2 = v := ⟨_, rfl⟩
                            have b684 := iv14_2 hS647.1 ta1 c683
                            have p685 := p659 _ d2
                            clear p659
                            rw [c683] at p685
                            have p686 := p660 _ d2
                            clear p660
                            rw [c650] at p686
                            have p687 := p661 _ d2
                            clear p661
                            rw [c651] at p687
                            have p688 := p662 _ d2
                            clear p662
                            rw [c652] at p688
                            have p689 := p663 _ d2
                            clear p663
                            rw [c653] at p689
                            have p690 := p664 _ d2
                            clear p664
                            rw [c654] at p690
                            obtain ⟨v691, c692⟩ : ∃ v, I639 a0 13 = v := ⟨_, rfl⟩
                            rw [c692] at p665
                            rw [c63] at p665
                            obtain ⟨v693, c694⟩ : ∃ v, I639 a0 9 = v := ⟨_, rfl⟩
                            have b695 := iv15_9 hS647.1 ta0 c694
                            rw [c694] at p666
                            rw [c694] at p667
                            obtain ⟨v696, c697⟩ : ∃ v, I639 a0 10 = v := ⟨_, rfl⟩
                            have b698 := iv15_10 hS647.1 ta0 c697
                            rw [c697] at p668
                            obtain ⟨v699, c700⟩ : ∃ v, I639 a0 11 = v := ⟨_, rfl⟩
                            rw [c700] at p669
                            obtain ⟨y701, c702⟩ : ∃ v, L641 a0 15 = v := ⟨_, rfl⟩
                            rw [c702] at p670
                            obtain ⟨v703, c704⟩ : ∃ v, I639 a0 12 = v := ⟨_, rfl⟩
                            rw [c704] at p671
                            obtain ⟨v705, c706⟩ : ∃ v, I639 a0 8 = v := ⟨_, rfl⟩
                            have b707 := iv15_8 hS647.1 ta0 c706
                            rw [c706] at p672
                            refine tr_goto 186 dX12_readLine_98 (by decide) ?_
                            obtain ⟨v708, c709⟩ : ∃ v, I639 a0 14 = v := ⟨_, rfl⟩
                            exact tr_vret hZ dX12_readLine_186 rfl (by decide) (by decide) ⟨rfl, rfl, rfl, rfl, rfl, hS647, (fun dr hd => (Option.some.inj (d2.symm.trans hd)) ▸ hO655), (Or.inl ⟨(by first | done | with_reducible assumption | omega), (fun q0 z0 => by obtain rfl := Option.some.inj ((d2).symm.trans z0); (try rw [c648]); first | done | with_reducible assumption | omega), (fun q0 z0 => by obtain rfl := Option.some.inj ((d2).symm.trans z0); (try rw [c649]); first | done | with_reducible assumption | omega), (fun q0 z0 => by obtain rfl := Option.some.inj ((d2).symm.trans z0); (try rw [c683]); first | done | with_reducible assumption | omega), (fun q0 z0 => by obtain rfl := Option.some.inj ((d2).symm.trans z0); (try rw [c650]); first | done | with_reducible assumption | omega), (fun q0 z0 => by obtain rfl := Option.some.inj ((d2).symm.trans z0); (try rw [c651]); first | done | with_reducible assumption | omega), (fun q0 z0 => by obtain rfl := Option.some.inj ((d2).symm.trans z0); (try rw [c652]); first | done | with_reducible assumption | omega), (fun q0 z0 => by obtain rfl := Option.some.inj ((d2).symm.trans z0); (try rw [c653]); first | done | with_reducible assumption | omega), (fun q0 z0 => by obtain rfl := Option.some.inj ((d2).symm.trans z0); (try rw [c654]); first | done | with_reducible assumption | omega), (by (try rw [c692]); (try rw [c63]); first | done | with_reducible assumption | omega), (by (try rw [c694]); first | done | with_reducible assumption | omega), (by (try rw [c694]); first | done | with_reducible assumption | omega), (by (try rw [c697]); first | done | with_reducible assumption | omega), (by (try rw [c700]); first | done | with_reducible assumption | omega), (by (try rw [c702]); first | done | assumption), (by (try rw [c704]); first | done | assumption), (by (try rw [c706]); first | done | assumption), hL679, (fun b hb => (Option.some.inj (d2.symm.trans hb)) ▸ (rp674 _ d2)), trivial⟩), trivial⟩
                          · skip
                            obtain ⟨v710, c711⟩ : ∃ v, I639 a0 9 = v := ⟨_, rfl⟩
                            have b712 := iv15_9 hS647.1 ta0 c711
                            rw [c711] at p676
                            obtain ⟨v713, c714⟩ : ∃ v, I639 a0 13 = v := ⟨_, rfl⟩
                            rw [c714] at p677
                            obtain ⟨v715, c716⟩ : ∃ v, I639 a0 14 = v := ⟨_, rfl⟩
                            rw [c716] at p678
                            refine tr_goto 186 dX12_readLine_98 (by decide) ?_
                            obtain ⟨v717, c718⟩ : ∃ v, I639 a1 2 = v := ⟨_, rfl⟩
                            have b719 := iv14_2 hS647.1 ta1 c718
                            obtain ⟨v720, c721⟩ : ∃ v, I639 a0 10 = v := ⟨_, rfl⟩
                            have b722 := iv15_10 hS647.1 ta0 c721
                            obtain ⟨v723, c724⟩ : ∃ v, I639 a0 11 = v := ⟨_, rfl⟩
                            obtain ⟨y725, c726⟩ : ∃ v, L641 a0 15 = v := ⟨_, rfl⟩
                            obtain ⟨v727, c728⟩ : ∃ v, I639 a0 12 = v := ⟨_, rfl⟩
                            obtain ⟨v729, c730⟩ : ∃ v, I639 a0 8 = v := ⟨_, rfl⟩
                            have b731 := iv15_8 hS647.1 ta0 c730
                            exact tr_vret hZ dX12_readLine_186 rfl (by decide) (by decide) ⟨rfl, rfl, rfl, rfl, rfl, hS647, (fun dr hd => (Option.some.inj (d2.symm.trans hd)) ▸ hO655), (Or.inr (⟨(by first | done | with_reducible assumption | omega), (by (try rw [c711]); first | done | with_reducible assumption | omega), (by (try rw [c714]); first | done | with_reducible assumption | omega), (by (try rw [c716]); first | done | with_reducible assumption | omega), trivial⟩)), trivial⟩
                      · skip
                        refine q_if_eq 101 dX12_readLine_90 (by decide) (fun h732 => ?_) (fun h732 => ?_)
                        · skip
                          refine tr_aload_n dX12_readLine_101 rfl ?_
                          refine tr_ldcS dX12_readLine_102 ld12_176 ?_
                          refine q_callVi hE (M' := mX12_isWord) (as := [_]) dX12_readLine_104 lk12_138 inX12_isWord seX12_isWord myX12_isWord (by decide) ⟨by decide, by decide⟩ rfl (kR15 hS0.1 ta0) (Nat.le_of_ble_eq_true rfl) rfl rfl (by decide) (by decide) (fk_X12_isWord hS0.1 (gB) (gs) ta0 (by decide) (by (try rw [c4]); first | done | with_reducible assumption | omega) (by (try rw [c16]); first | done | assumption)) ?_
                          rintro v738 cn' K' N' I733 R734 L735 ⟨rfl, rfl, rfl, rfl, rfl, rfl, h739, dj740, -⟩
                          (try rw [pk_6] at dj740)
                          rcases dj740 with ⟨p741, p742, p743, -⟩ | ⟨p744, p745, -⟩
                          · skip
                            have sr746 : srt gB gs = 5 := srt_5 (by exact om_ee8a1e2d p742) (by exact om_519e19c2 p743)
                            refine q_if_eq 117 dX12_readLine_107 (by decide) (fun h747 => ?_) (fun h747 => ?_)
                            · skip
                              exfalso; exact om_3624102b p741 h747
                            · skip
                              refine tr_aload_n dX12_readLine_110 rfl ?_
                              refine q_callVv hE (M' := mX12_readCheese) (as := []) dX12_readLine_111 lk12_233 inX12_readCheese seX12_readCheese myX12_readCheese (by decide) ⟨by decide, by decide⟩ rfl (kR15 hS0.1 ta0) (Nat.le_of_ble_eq_true rfl) rfl rfl (by decide) (by decide) (fk_X12_readCheese hS0.1 (gB) (gs) (gQ) ta0 (TxA.kp hT hS0 ta0 rfl rfl rfl (by decide +kernel) (by decide +kernel)) (fun b hb => (Option.some.inj (d2.symm.trans hb)) ▸ hM0) (by (try rw [c4]); first | done | with_reducible assumption | omega) (by (try rw [c4]); first | done | with_reducible assumption | omega) (by (try rw [c9]); first | done | with_reducible assumption | omega) (by (try rw [c13]); first | done | with_reducible assumption | omega) (by (try rw [c16]); first | done | assumption) (by (try rw [c19]); first | done | assumption) (by (try rw [c22]); first | done | assumption) (by (try rw [c26]); first | done | with_reducible assumption | omega) (fun q0 z0 => by obtain rfl := Option.some.inj ((d2).symm.trans z0); (try rw [c30]); first | done | with_reducible assumption | omega) (fun q0 z0 => by obtain rfl := Option.some.inj ((d2).symm.trans z0); (try rw [c34]); first | done | with_reducible assumption | omega) (fun q0 z0 => by obtain rfl := Option.some.inj ((d2).symm.trans z0); (try rw [c38]); first | done | with_reducible assumption | omega) (fun q0 z0 => by obtain rfl := Option.some.inj ((d2).symm.trans z0); (try rw [c42]); first | done | with_reducible assumption | omega) (fun q0 z0 => by obtain rfl := Option.some.inj ((d2).symm.trans z0); (try rw [c46]); first | done | with_reducible assumption | omega) (fun q0 z0 => by obtain rfl := Option.some.inj ((d2).symm.trans z0); (try rw [c50]); first | done | with_reducible assumption | omega) (fun q0 z0 => by obtain rfl := Option.some.inj ((d2).symm.trans z0); (try rw [c54]); first | done | with_reducible assumption | omega) (fun q0 z0 => by obtain rfl := Option.some.inj ((d2).symm.trans z0); (try rw [c58]); first | done | with_reducible assumption | omega) (by first | done | assumption) (by first | done | with_reducible assumption | omega) (by first | done | with_reducible assumption | omega) ⟨_, d2⟩) ?_
                              rintro cn' K' N' I748 R749 L750 ⟨rfl, rfl, rfl, rfl, g751, rp754, dj755, -⟩
                              have hS756 := hS0.tr g751 (by decide +kernel) (by decide +kernel)
                              have c757 : I748 a1 0 = v29 := (g751.cell ta1 (by decide +kernel)).trans c30
                              have c758 : I748 a1 1 = v33 := (g751.cell ta1 (by decide +kernel)).trans c34
                              have c759 : I748 a1 2 = v37 := (g751.cell ta1 (by decide +kernel)).trans c38
                              have c760 : I748 a1 4 = v45 := (g751.cell ta1 (by decide +kernel)).trans c46
                              have c761 : I748 a1 5 = v49 := (g751.cell ta1 (by decide +kernel)).trans c50
                              have c762 : I748 a1 6 = v53 := (g751.cell ta1 (by decide +kernel)).trans c54
                              have c763 : I748 a1 9 = v57 := (g751.cell ta1 (by decide +kernel)).trans c58
                              have hO764 : FrO 14 a1 T I0 I748 := hO0.tr (rp754 _ d2)
                              rcases dj755 with ⟨p765, p766, p767, p768, p769, p770, p771, p772, p773, p774, p775, p776, p777, p778, p779, p780, p781, gl782, rp783, -⟩ | ⟨p784, p785, p786, p787, -⟩
                              · skip
                                have hL788 := hL0.tr gl782 (by decide +kernel)
                                have p789 := p766 _ d2
                                clear p766
                                rw [c757] at p789
                                have p790 := p767 _ d2
                                clear p767
                                rw [c758] at p790
                                have p791 := p768 _ d2
                                clear p768
                                rw [c759] at p791
                                obtain ⟨v792, c793⟩ : ∃ v, I748 a1 3 = v := ⟨_, rfl⟩
                                have b794 := iv14_3 hS756.1 ta1 c793
                                have p795 := p769 _ d2
                                clear p769
                                rw [c793] at p795
                                have p796 := p770 _ d2
                                clear p770
                                rw [c760] at p796
                                have p797 := p771 _ d2
                                clear p771
                                rw [c761] at p797
                                have p798 := p772 _ d2
                                clear p772
                                rw [c762] at p798
                                have p799 := p773 _ d2
                                clear p773
                                rw [c763] at p799
                                obtain ⟨v800, c801⟩ : ∃ v, I748 a0 13 = v := ⟨_, rfl⟩
                                rw [c801] at p774
                                rw [c63] at p774
                                obtain ⟨v802, c803⟩ : ∃ v, I748 a0 9 = v := ⟨_, rfl⟩
                                have b804 := iv15_9 hS756.1 ta0 c803
                                rw [c803] at p775
                                rw [c803] at p776
                                obtain ⟨v805, c806⟩ : ∃ v, I748 a0 10 = v := ⟨_, rfl⟩
                                have b807 := iv15_10 hS756.1 ta0 c806
                                rw [c806] at p777
                                obtain ⟨v808, c809⟩ : ∃ v, I748 a0 11 = v := ⟨_, rfl⟩
                                rw [c809] at p778
                                obtain ⟨y810, c811⟩ : ∃ v, L750 a0 15 = v := ⟨_, rfl⟩
                                rw [c811] at p779
                                obtain ⟨v812, c813⟩ : ∃ v, I748 a0 12 = v := ⟨_, rfl⟩
                                rw [c813] at p780
                                obtain ⟨v814, c815⟩ : ∃ v, I748 a0 8 = v := ⟨_, rfl⟩
                                have b816 := iv15_8 hS756.1 ta0 c815
                                rw [c815] at p781
                                refine tr_goto 186 dX12_readLine_114 (by decide) ?_
                                obtain ⟨v817, c818⟩ : ∃ v, I748 a0 14 = v := ⟨_, rfl⟩
                                exact tr_vret hZ dX12_readLine_186 rfl (by decide) (by decide) ⟨rfl, rfl, rfl, rfl, rfl, hS756, (fun dr hd => (Option.some.inj (d2.symm.trans hd)) ▸ hO764), (Or.inl ⟨(by first | done | with_reducible assumption | omega), (fun q0 z0 => by obtain rfl := Option.some.inj ((d2).symm.trans z0); (try rw [c757]); first | done | with_reducible assumption | omega), (fun q0 z0 => by obtain rfl := Option.some.inj ((d2).symm.trans z0); (try rw [c758]); first | done | with_reducible assumption | omega), (fun q0 z0 => by obtain rfl := Option.some.inj ((d2).symm.trans z0); (try rw [c759]); first | done | with_reducible assumption | omega), (fun q0 z0 => by obtain rfl := Option.some.inj ((d2).symm.trans z0); (try rw [c793]); first | done | with_reducible assumption | omega), (fun q0 z0 => by obtain rfl := Option.some.inj ((d2).symm.trans z0); (try rw [c760]); first | done | with_reducible assumption | omega), (fun q0 z0 => by obtain rfl := Option.some.inj ((d2).symm.trans z0); (try rw [c761]); first | done | with_reducible assumption | omega), (fun q0 z0 => by obtain rfl := Option.some.inj ((d2).symm.trans z0); (try rw [c762]); first | done | with_reducible assumption | omega), (fun q0 z0 => by obtain rfl := Option.some.inj ((d2).symm.trans z0); (try rw [c763]); first | done | with_reducible assumption | omega), (by (try rw [c801]); (try rw [c63]); first | done | with_reducible assumption | omega), (by (try rw [c803]); first | done | with_reducible assumption | omega), (by (try rw [c803]); first | done | with_reducible assumption | omega), (by (try rw [c806]); first | done | with_reducible assumption | omega), (by (try rw [c809]); first | done | with_reducible assumption | omega), (by (try rw [c811]); first | done | assumption), (by (try rw [c813]); first | done | assumption), (by (try rw [c815]); first | done | assumption), hL788, (fun b hb => (Option.some.inj (d2.symm.trans hb)) ▸ (rp783 _ d2)), trivial⟩), trivial⟩
                              · skip
                                obtain ⟨v819, c820⟩ : ∃ v, I748 a0 9 = v := ⟨_, rfl⟩
                                have b821 := iv15_9 hS756.1 ta0 c820
                                rw [c820] at p785
                                obtain ⟨v822, c823⟩ : ∃ v, I748 a0 13 = v := ⟨_, rfl⟩
                                rw [c823] at p786
                                obtain ⟨v824, c825⟩ : ∃ v, I748 a0 14 = v := ⟨_, rfl⟩
                                rw [c825] at p787
                                refine tr_goto 186 dX12_readLine_114 (by decide) ?_
                                obtain ⟨v826, c827⟩ : ∃ v, I748 a1 3 = v := ⟨_, rfl⟩
                                have b828 := iv14_3 hS756.1 ta1 c827
                                obtain ⟨v829, c830⟩ : ∃ v, I748 a0 10 = v := ⟨_, rfl⟩
                                have b831 := iv15_10 hS756.1 ta0 c830
                                obtain ⟨v832, c833⟩ : ∃ v, I748 a0 11 = v := ⟨_, rfl⟩
                                obtain ⟨y834, c835⟩ : ∃ v, L750 a0 15 = v := ⟨_, rfl⟩
                                obtain ⟨v836, c837⟩ : ∃ v, I748 a0 12 = v := ⟨_, rfl⟩
                                obtain ⟨v838, c839⟩ : ∃ v, I748 a0 8 = v := ⟨_, rfl⟩
                                have b840 := iv15_8 hS756.1 ta0 c839
                                exact tr_vret hZ dX12_readLine_186 rfl (by decide) (by decide) ⟨rfl, rfl, rfl, rfl, rfl, hS756, (fun dr hd => (Option.some.inj (d2.symm.trans hd)) ▸ hO764), (Or.inr (⟨(by first | done | with_reducible assumption | omega), (by (try rw [c820]); first | done | with_reducible assumption | omega), (by (try rw [c823]); first | done | with_reducible assumption | omega), (by (try rw [c825]); first | done | with_reducible assumption | omega), trivial⟩)), trivial⟩
                          · skip
                            refine q_if_eq 117 dX12_readLine_107 (by decide) (fun h841 => ?_) (fun h841 => ?_)
                            · skip
                              refine tr_aload_n dX12_readLine_117 rfl ?_
                              refine tr_ldcS dX12_readLine_118 ld12_178 ?_
                              refine q_callVi hE (M' := mX12_isWord) (as := [_]) dX12_readLine_120 lk12_138 inX12_isWord seX12_isWord myX12_isWord (by decide) ⟨by decide, by decide⟩ rfl (kR15 hS0.1 ta0) (Nat.le_of_ble_eq_true rfl) rfl rfl (by decide) (by decide) (fk_X12_isWord hS0.1 (gB) (gs) ta0 (by decide) (by (try rw [c4]); first | done | with_reducible assumption | omega) (by (try rw [c16]); first | done | assumption)) ?_
                              rintro v847 cn' K' N' I842 R843 L844 ⟨rfl, rfl, rfl, rfl, rfl, rfl, h848, dj849, -⟩
                              (try rw [pk_0] at dj849)
                              rcases dj849 with ⟨p850, p851, p852, -⟩ | ⟨p853, p854, -⟩
                              · skip
                                have sr855 : srt gB gs = 6 := srt_6 (by exact om_ee8a1e2d p851) (by exact om_7c4563db p852)
                                refine q_if_eq 133 dX12_readLine_123 (by decide) (fun h856 => ?_) (fun h856 => ?_)
                                · skip
                                  exfalso; exact om_3624102b p850 h856
                                · skip
                                  refine tr_aload_n dX12_readLine_126 rfl ?_
                                  refine q_callVv hE (M' := mX12_readAlmanac) (as := []) dX12_readLine_127 lk12_236 inX12_readAlmanac seX12_readAlmanac myX12_readAlmanac (by decide) ⟨by decide, by decide⟩ rfl (kR15 hS0.1 ta0) (Nat.le_of_ble_eq_true rfl) rfl rfl (by decide) (by decide) (fk_X12_readAlmanac hS0.1 (gB) (gs) (gQ) ta0 (TxA.kp hT hS0 ta0 rfl rfl rfl (by decide +kernel) (by decide +kernel)) (fun b hb => (Option.some.inj (d2.symm.trans hb)) ▸ hM0) (by (try rw [c4]); first | done | with_reducible assumption | omega) (by (try rw [c4]); first | done | with_reducible assumption | omega) (by (try rw [c9]); first | done | with_reducible assumption | omega) (by (try rw [c13]); first | done | with_reducible assumption | omega) (by (try rw [c16]); first | done | assumption) (by (try rw [c19]); first | done | assumption) (by (try rw [c22]); first | done | assumption) (by (try rw [c26]); first | done | with_reducible assumption | omega) (fun q0 z0 => by obtain rfl := Option.some.inj ((d2).symm.trans z0); (try rw [c30]); first | done | with_reducible assumption | omega) (fun q0 z0 => by obtain rfl := Option.some.inj ((d2).symm.trans z0); (try rw [c34]); first | done | with_reducible assumption | omega) (fun q0 z0 => by obtain rfl := Option.some.inj ((d2).symm.trans z0); (try rw [c38]); first | done | with_reducible assumption | omega) (fun q0 z0 => by obtain rfl := Option.some.inj ((d2).symm.trans z0); (try rw [c42]); first | done | with_reducible assumption | omega) (fun q0 z0 => by obtain rfl := Option.some.inj ((d2).symm.trans z0); (try rw [c46]); first | done | with_reducible assumption | omega) (fun q0 z0 => by obtain rfl := Option.some.inj ((d2).symm.trans z0); (try rw [c50]); first | done | with_reducible assumption | omega) (fun q0 z0 => by obtain rfl := Option.some.inj ((d2).symm.trans z0); (try rw [c54]); first | done | with_reducible assumption | omega) (fun q0 z0 => by obtain rfl := Option.some.inj ((d2).symm.trans z0); (try rw [c58]); first | done | with_reducible assumption | omega) (by first | done | assumption) (by first | done | with_reducible assumption | omega) (by first | done | with_reducible assumption | omega) ⟨_, d2⟩) ?_
                                  rintro cn' K' N' I857 R858 L859 ⟨rfl, rfl, rfl, rfl, g860, rp863, dj864, -⟩
                                  have hS865 := hS0.tr g860 (by decide +kernel) (by decide +kernel)
                                  have c866 : I857 a1 0 = v29 := (g860.cell ta1 (by decide +kernel)).trans c30
                                  have c867 : I857 a1 1 = v33 := (g860.cell ta1 (by decide +kernel)).trans c34
                                  have c868 : I857 a1 2 = v37 := (g860.cell ta1 (by decide +kernel)).trans c38
                                  have c869 : I857 a1 3 = v41 := (g860.cell ta1 (by decide +kernel)).trans c42
                                  have c870 : I857 a1 4 = v45 := (g860.cell ta1 (by decide +kernel)).trans c46
                                  have c871 : I857 a1 5 = v49 := (g860.cell ta1 (by decide +kernel)).trans c50
                                  have c872 : I857 a1 6 = v53 := (g860.cell ta1 (by decide +kernel)).trans c54
                                  have hO873 : FrO 14 a1 T I0 I857 := hO0.tr (rp863 _ d2)
                                  rcases dj864 with ⟨p874, p875, p876, p877, p878, p879, p880, p881, p882, p883, p884, p885, p886, p887, p888, p889, p890, gl891, rp892, -⟩ | ⟨p893, p894, p895, p896, -⟩
                                  · skip
                                    have hL897 := hL0.tr gl891 (by decide +kernel)
                                    have p898 := p875 _ d2
                                    clear p875
                                    rw [c866] at p898
                                    have p899 := p876 _ d2
                                    clear p876
                                    rw [c867] at p899
                                    have p900 := p877 _ d2
                                    clear p877
                                    rw [c868] at p900
                                    have p901 := p878 _ d2
                                    clear p878
                                    rw [c869] at p901
                                    have p902 := p879 _ d2
                                    clear p879
                                    rw [c870] at p902
                                    have p903 := p880 _ d2
                                    clear p880
                                    rw [c871] at p903
                                    have p904 := p881 _ d2
                                    clear p881
                                    rw [c872] at p904
                                    obtain ⟨v905, c906⟩ : ∃ v, I857 a1 9 = v := ⟨_, rfl⟩
                                    have b907 := iv14_9 hS865.1 ta1 c906
                                    have p908 := p882 _ d2
                                    clear p882
                                    rw [c906] at p908
                                    obtain ⟨v909, c910⟩ : ∃ v, I857 a0 13 = v := ⟨_, rfl⟩
                                    rw [c910] at p883
                                    rw [c63] at p883
                                    obtain ⟨v911, c912⟩ : ∃ v, I857 a0 9 = v := ⟨_, rfl⟩
                                    have b913 := iv15_9 hS865.1 ta0 c912
                                    rw [c912] at p884
                                    rw [c912] at p885
                                    obtain ⟨v914, c915⟩ : ∃ v, I857 a0 10 = v := ⟨_, rfl⟩
                                    have b916 := iv15_10 hS865.1 ta0 c915
                                    rw [c915] at p886
                                    obtain ⟨v917, c918⟩ : ∃ v, I857 a0 11 = v := ⟨_, rfl⟩
                                    rw [c918] at p887
                                    obtain ⟨y919, c920⟩ : ∃ v, L859 a0 15 = v := ⟨_, rfl⟩
                                    rw [c920] at p888
                                    obtain ⟨v921, c922⟩ : ∃ v, I857 a0 12 = v := ⟨_, rfl⟩
                                    rw [c922] at p889
                                    obtain ⟨v923, c924⟩ : ∃ v, I857 a0 8 = v := ⟨_, rfl⟩
                                    have b925 := iv15_8 hS865.1 ta0 c924
                                    rw [c924] at p890
                                    refine tr_goto 186 dX12_readLine_130 (by decide) ?_
                                    obtain ⟨v926, c927⟩ : ∃ v, I857 a0 14 = v := ⟨_, rfl⟩
                                    exact tr_vret hZ dX12_readLine_186 rfl (by decide) (by decide) ⟨rfl, rfl, rfl, rfl, rfl, hS865, (fun dr hd => (Option.some.inj (d2.symm.trans hd)) ▸ hO873), (Or.inl ⟨(by first | done | with_reducible assumption | omega), (fun q0 z0 => by obtain rfl := Option.some.inj ((d2).symm.trans z0); (try rw [c866]); first | done | with_reducible assumption | omega), (fun q0 z0 => by obtain rfl := Option.some.inj ((d2).symm.trans z0); (try rw [c867]); first | done | with_reducible assumption | omega), (fun q0 z0 => by obtain rfl := Option.some.inj ((d2).symm.trans z0); (try rw [c868]); first | done | with_reducible assumption | omega), (fun q0 z0 => by obtain rfl := Option.some.inj ((d2).symm.trans z0); (try rw [c869]); first | done | with_reducible assumption | omega), (fun q0 z0 => by obtain rfl := Option.some.inj ((d2).symm.trans z0); (try rw [c870]); first | done | with_reducible assumption | omega), (fun q0 z0 => by obtain rfl := Option.some.inj ((d2).symm.trans z0); (try rw [c871]); first | done | with_reducible assumption | omega), (fun q0 z0 => by obtain rfl := Option.some.inj ((d2).symm.trans z0); (try rw [c872]); first | done | with_reducible assumption | omega), (fun q0 z0 => by obtain rfl := Option.some.inj ((d2).symm.trans z0); (try rw [c906]); first | done | with_reducible assumption | omega), (by (try rw [c910]); (try rw [c63]); first | done | with_reducible assumption | omega), (by (try rw [c912]); first | done | with_reducible assumption | omega), (by (try rw [c912]); first | done | with_reducible assumption | omega), (by (try rw [c915]); first | done | with_reducible assumption | omega), (by (try rw [c918]); first | done | with_reducible assumption | omega), (by (try rw [c920]); first | done | assumption), (by (try rw [c922]); first | done | assumption), (by (try rw [c924]); first | done | assumption), hL897, (fun b hb => (Option.some.inj (d2.symm.trans hb)) ▸ (rp892 _ d2)), trivial⟩), trivial⟩
                                  · skip
                                    obtain ⟨v928, c929⟩ : ∃ v, I857 a0 9 = v := ⟨_, rfl⟩
                                    have b930 := iv15_9 hS865.1 ta0 c929
                                    rw [c929] at p894
                                    obtain ⟨v931, c932⟩ : ∃ v, I857 a0 13 = v := ⟨_, rfl⟩
                                    rw [c932] at p895
                                    obtain ⟨v933, c934⟩ : ∃ v, I857 a0 14 = v := ⟨_, rfl⟩
                                    rw [c934] at p896
                                    refine tr_goto 186 dX12_readLine_130 (by decide) ?_
                                    obtain ⟨v935, c936⟩ : ∃ v, I857 a1 9 = v := ⟨_, rfl⟩
                                    have b937 := iv14_9 hS865.1 ta1 c936
                                    obtain ⟨v938, c939⟩ : ∃ v, I857 a0 10 = v := ⟨_, rfl⟩
                                    have b940 := iv15_10 hS865.1 ta0 c939
                                    obtain ⟨v941, c942⟩ : ∃ v, I857 a0 11 = v := ⟨_, rfl⟩
                                    obtain ⟨y943, c944⟩ : ∃ v, L859 a0 15 = v := ⟨_, rfl⟩
                                    obtain ⟨v945, c946⟩ : ∃ v, I857 a0 12 = v := ⟨_, rfl⟩
                                    obtain ⟨v947, c948⟩ : ∃ v, I857 a0 8 = v := ⟨_, rfl⟩
                                    have b949 := iv15_8 hS865.1 ta0 c948
                                    exact tr_vret hZ dX12_readLine_186 rfl (by decide) (by decide) ⟨rfl, rfl, rfl, rfl, rfl, hS865, (fun dr hd => (Option.some.inj (d2.symm.trans hd)) ▸ hO873), (Or.inr (⟨(by first | done | with_reducible assumption | omega), (by (try rw [c929]); first | done | with_reducible assumption | omega), (by (try rw [c932]); first | done | with_reducible assumption | omega), (by (try rw [c934]); first | done | with_reducible assumption | omega), trivial⟩)), trivial⟩
                              · skip
                                refine q_if_eq 133 dX12_readLine_123 (by decide) (fun h950 => ?_) (fun h950 => ?_)
                                · skip
                                  refine tr_aload_n dX12_readLine_133 rfl ?_
                                  refine tr_ldcS dX12_readLine_134 ld12_180 ?_
                                  refine q_callVi hE (M' := mX12_isWord) (as := [_]) dX12_readLine_136 lk12_138 inX12_isWord seX12_isWord myX12_isWord (by decide) ⟨by decide, by decide⟩ rfl (kR15 hS0.1 ta0) (Nat.le_of_ble_eq_true rfl) rfl rfl (by decide) (by decide) (fk_X12_isWord hS0.1 (gB) (gs) ta0 (by decide) (by (try rw [c4]); first | done | with_reducible assumption | omega) (by (try rw [c16]); first | done | assumption)) ?_
                                  rintro v956 cn' K' N' I951 R952 L953 ⟨rfl, rfl, rfl, rfl, rfl, rfl, h957, dj958, -⟩
                                  (try rw [pk_26] at dj958)
                                  rcases dj958 with ⟨p959, p960, p961, -⟩ | ⟨p962, p963, -⟩
                                  · skip
                                    have sr964 : srt gB gs = 7 := srt_7 (by exact om_ee8a1e2d p960) (by exact om_f0efd43f p961)
                                    refine q_if_eq 149 dX12_readLine_139 (by decide) (fun h965 => ?_) (fun h965 => ?_)
                                    · skip
                                      exfalso; exact om_3624102b p959 h965
                                    · skip
                                      refine tr_aload_n dX12_readLine_142 rfl ?_
                                      refine q_callVv hE (M' := mX12_readTurner) (as := []) dX12_readLine_143 lk12_239 inX12_readTurner seX12_readTurner myX12_readTurner (by decide) ⟨by decide, by decide⟩ rfl (kR15 hS0.1 ta0) (Nat.le_of_ble_eq_true rfl) rfl rfl (by decide) (by decide) (fk_X12_readTurner hS0.1 (gB) (gs) (gQ) ta0 (TxA.kp hT hS0 ta0 rfl rfl rfl (by decide +kernel) (by decide +kernel)) (fun b hb => (Option.some.inj (d2.symm.trans hb)) ▸ hM0) (by (try rw [c4]); first | done | with_reducible assumption | omega) (by (try rw [c4]); first | done | with_reducible assumption | omega) (by (try rw [c9]); first | done | with_reducible assumption | omega) (by (try rw [c13]); first | done | with_reducible assumption | omega) (by (try rw [c16]); first | done | assumption) (by (try rw [c19]); first | done | assumption) (by (try rw [c22]); first | done | assumption) (by (try rw [c26]); first | done | with_reducible assumption | omega) (fun q0 z0 => by obtain rfl := Option.some.inj ((d2).symm.trans z0); (try rw [c30]); first | done | with_reducible assumption | omega) (fun q0 z0 => by obtain rfl := Option.some.inj ((d2).symm.trans z0); (try rw [c34]); first | done | with_reducible assumption | omega) (fun q0 z0 => by obtain rfl := Option.some.inj ((d2).symm.trans z0); (try rw [c38]); first | done | with_reducible assumption | omega) (fun q0 z0 => by obtain rfl := Option.some.inj ((d2).symm.trans z0); (try rw [c42]); first | done | with_reducible assumption | omega) (fun q0 z0 => by obtain rfl := Option.some.inj ((d2).symm.trans z0); (try rw [c46]); first | done | with_reducible assumption | omega) (fun q0 z0 => by obtain rfl := Option.some.inj ((d2).symm.trans z0); (try rw [c50]); first | done | with_reducible assumption | omega) (fun q0 z0 => by obtain rfl := Option.some.inj ((d2).symm.trans z0); (try rw [c54]); first | done | with_reducible assumption | omega) (fun q0 z0 => by obtain rfl := Option.some.inj ((d2).symm.trans z0); (try rw [c58]); first | done | with_reducible assumption | omega) (by first | done | assumption) (by first | done | with_reducible assumption | omega) (by first | done | with_reducible assumption | omega) ⟨_, d2⟩) ?_
                                      rintro cn' K' N' I966 R967 L968 ⟨rfl, rfl, rfl, rfl, g969, rp972, dj973, -⟩
                                      have hS974 := hS0.tr g969 (by decide +kernel) (by decide +kernel)
                                      have c975 : I966 a1 0 = v29 := (g969.cell ta1 (by decide +kernel)).trans c30
                                      have c976 : I966 a1 1 = v33 := (g969.cell ta1 (by decide +kernel)).trans c34
                                      have c977 : I966 a1 2 = v37 := (g969.cell ta1 (by decide +kernel)).trans c38
                                      have c978 : I966 a1 3 = v41 := (g969.cell ta1 (by decide +kernel)).trans c42
                                      have c979 : I966 a1 5 = v49 := (g969.cell ta1 (by decide +kernel)).trans c50
                                      have c980 : I966 a1 6 = v53 := (g969.cell ta1 (by decide +kernel)).trans c54
                                      have c981 : I966 a1 9 = v57 := (g969.cell ta1 (by decide +kernel)).trans c58
                                      have hO982 : FrO 14 a1 T I0 I966 := hO0.tr (rp972 _ d2)
                                      rcases dj973 with ⟨p983, p984, p985, p986, p987, p988, p989, p990, p991, p992, p993, p994, p995, p996, p997, p998, p999, gl1000, rp1001, -⟩ | ⟨p1002, p1003, p1004, p1005, -⟩
                                      · skip
                                        have hL1006 := hL0.tr gl1000 (by decide +kernel)
                                        have p1007 := p984 _ d2
                                        clear p984
                                        rw [c975] at p1007
                                        have p1008 := p985 _ d2
                                        clear p985
                                        rw [c976] at p1008
                                        have p1009 := p986 _ d2
                                        clear p986
                                        rw [c977] at p1009
                                        have p1010 := p987 _ d2
                                        clear p987
                                        rw [c978] at p1010
                                        obtain ⟨v1011, c1012⟩ : ∃ v, I966 a1 4 = v := ⟨_, rfl⟩
                                        have b1013 := iv14_4 hS974.1 ta1 c1012
                                        have p1014 := p988 _ d2
                                        clear p988
                                        rw [c1012] at p1014
                                        have p1015 := p989 _ d2
                                        clear p989
                                        rw [c979] at p1015
                                        have p1016 := p990 _ d2
                                        clear p990
                                        rw [c980] at p1016
                                        have p1017 := p991 _ d2
                                        clear p991
                                        rw [c981] at p1017
                                        obtain ⟨v1018, c1019⟩ : ∃ v, I966 a0 13 = v := ⟨_, rfl⟩
                                        rw [c1019] at p992
                                        rw [c63] at p992
                                        obtain ⟨v1020, c1021⟩ : ∃ v, I966 a0 9 = v := ⟨_, rfl⟩
                                        have b1022 := iv15_9 hS974.1 ta0 c1021
                                        rw [c1021] at p993
                                        rw [c1021] at p994
                                        obtain ⟨v1023, c1024⟩ : ∃ v, I966 a0 10 = v := ⟨_, rfl⟩
                                        have b1025 := iv15_10 hS974.1 ta0 c1024
                                        rw [c1024] at p995
                                        obtain ⟨v1026, c1027⟩ : ∃ v, I966 a0 11 = v := ⟨_, rfl⟩
                                        rw [c1027] at p996
                                        obtain ⟨y1028, c1029⟩ : ∃ v, L968 a0 15 = v := ⟨_, rfl⟩
                                        rw [c1029] at p997
                                        obtain ⟨v1030, c1031⟩ : ∃ v, I966 a0 12 = v := ⟨_, rfl⟩
                                        rw [c1031] at p998
                                        obtain ⟨v1032, c1033⟩ : ∃ v, I966 a0 8 = v := ⟨_, rfl⟩
                                        have b1034 := iv15_8 hS974.1 ta0 c1033
                                        rw [c1033] at p999
                                        refine tr_goto 186 dX12_readLine_146 (by decide) ?_
                                        obtain ⟨v1035, c1036⟩ : ∃ v, I966 a0 14 = v := ⟨_, rfl⟩
                                        exact tr_vret hZ dX12_readLine_186 rfl (by decide) (by decide) ⟨rfl, rfl, rfl, rfl, rfl, hS974, (fun dr hd => (Option.some.inj (d2.symm.trans hd)) ▸ hO982), (Or.inl ⟨(by first | done | with_reducible assumption | omega), (fun q0 z0 => by obtain rfl := Option.some.inj ((d2).symm.trans z0); (try rw [c975]); first | done | with_reducible assumption | omega), (fun q0 z0 => by obtain rfl := Option.some.inj ((d2).symm.trans z0); (try rw [c976]); first | done | with_reducible assumption | omega), (fun q0 z0 => by obtain rfl := Option.some.inj ((d2).symm.trans z0); (try rw [c977]); first | done | with_reducible assumption | omega), (fun q0 z0 => by obtain rfl := Option.some.inj ((d2).symm.trans z0); (try rw [c978]); first | done | with_reducible assumption | omega), (fun q0 z0 => by obtain rfl := Option.some.inj ((d2).symm.trans z0); (try rw [c1012]); first | done | with_reducible assumption | omega), (fun q0 z0 => by obtain rfl := Option.some.inj ((d2).symm.trans z0); (try rw [c979]); first | done | with_reducible assumption | omega), (fun q0 z0 => by obtain rfl := Option.some.inj ((d2).symm.trans z0); (try rw [c980]); first | done | with_reducible assumption | omega), (fun q0 z0 => by obtain rfl := Option.some.inj ((d2).symm.trans z0); (try rw [c981]); first | done | with_reducible assumption | omega), (by (try rw [c1019]); (try rw [c63]); first | done | with_reducible assumption | omega), (by (try rw [c1021]); first | done | with_reducible assumption | omega), (by (try rw [c1021]); first | done | with_reducible assumption | omega), (by (try rw [c1024]); first | done | with_reducible assumption | omega), (by (try rw [c1027]); first | done | with_reducible assumption | omega), (by (try rw [c1029]); first | done | assumption), (by (try rw [c1031]); first | done | assumption), (by (try rw [c1033]); first | done | assumption), hL1006, (fun b hb => (Option.some.inj (d2.symm.trans hb)) ▸ (rp1001 _ d2)), trivial⟩), trivial⟩
                                      · skip
                                        obtain ⟨v1037, c1038⟩ : ∃ v, I966 a0 9 = v := ⟨_, rfl⟩
                                        have b1039 := iv15_9 hS974.1 ta0 c1038
                                        rw [c1038] at p1003
                                        obtain ⟨v1040, c1041⟩ : ∃ v, I966 a0 13 = v := ⟨_, rfl⟩
                                        rw [c1041] at p1004
                                        obtain ⟨v1042, c1043⟩ : ∃ v, I966 a0 14 = v := ⟨_, rfl⟩
                                        rw [c1043] at p1005
                                        refine tr_goto 186 dX12_readLine_146 (by decide) ?_
                                        obtain ⟨v1044, c1045⟩ : ∃ v, I966 a1 4 = v := ⟨_, rfl⟩
                                        have b1046 := iv14_4 hS974.1 ta1 c1045
                                        obtain ⟨v1047, c1048⟩ : ∃ v, I966 a0 10 = v := ⟨_, rfl⟩
                                        have b1049 := iv15_10 hS974.1 ta0 c1048
                                        obtain ⟨v1050, c1051⟩ : ∃ v, I966 a0 11 = v := ⟨_, rfl⟩
                                        obtain ⟨y1052, c1053⟩ : ∃ v, L968 a0 15 = v := ⟨_, rfl⟩
                                        obtain ⟨v1054, c1055⟩ : ∃ v, I966 a0 12 = v := ⟨_, rfl⟩
                                        obtain ⟨v1056, c1057⟩ : ∃ v, I966 a0 8 = v := ⟨_, rfl⟩
                                        have b1058 := iv15_8 hS974.1 ta0 c1057
                                        exact tr_vret hZ dX12_readLine_186 rfl (by decide) (by decide) ⟨rfl, rfl, rfl, rfl, rfl, hS974, (fun dr hd => (Option.some.inj (d2.symm.trans hd)) ▸ hO982), (Or.inr (⟨(by first | done | with_reducible assumption | omega), (by (try rw [c1038]); first | done | with_reducible assumption | omega), (by (try rw [c1041]); first | done | with_reducible assumption | omega), (by (try rw [c1043]); first | done | with_reducible assumption | omega), trivial⟩)), trivial⟩
                                  · skip
                                    refine q_if_eq 149 dX12_readLine_139 (by decide) (fun h1059 => ?_) (fun h1059 => ?_)
                                    · skip
                                      refine tr_aload_n dX12_readLine_149 rfl ?_
                                      refine tr_ldcS dX12_readLine_150 ld12_182 ?_
                                      refine q_callVi hE (M' := mX12_isWord) (as := [_]) dX12_readLine_152 lk12_138 inX12_isWord seX12_isWord myX12_isWord (by decide) ⟨by decide, by decide⟩ rfl (kR15 hS0.1 ta0) (Nat.le_of_ble_eq_true rfl) rfl rfl (by decide) (by decide) (fk_X12_isWord hS0.1 (gB) (gs) ta0 (by decide) (by (try rw [c4]); first | done | with_reducible assumption | omega) (by (try rw [c16]); first | done | assumption)) ?_
                                      rintro v1065 cn' K' N' I1060 R1061 L1062 ⟨rfl, rfl, rfl, rfl, rfl, rfl, h1066, dj1067, -⟩
                                      (try rw [pk_5] at dj1067)
                                      rcases dj1067 with ⟨p1068, p1069, p1070, -⟩ | ⟨p1071, p1072, -⟩
                                      · skip
                                        have sr1073 : srt gB gs = 8 := srt_8 (by exact om_ee8a1e2d p1069) (by exact om_0a66535f p1070)
                                        refine q_if_eq 165 dX12_readLine_155 (by decide) (fun h1074 => ?_) (fun h1074 => ?_)
                                        · skip
                                          exfalso; exact om_3624102b p1068 h1074
                                        · skip
                                          refine tr_aload_n dX12_readLine_158 rfl ?_
                                          refine q_callVv hE (M' := mX12_readCall) (as := []) dX12_readLine_159 lk12_242 inX12_readCall seX12_readCall myX12_readCall (by decide) ⟨by decide, by decide⟩ rfl (kR15 hS0.1 ta0) (Nat.le_of_ble_eq_true rfl) rfl rfl (by decide) (by decide) (fk_X12_readCall hS0.1 (gB) (gs) (gQ) ta0 (TxA.kp hT hS0 ta0 rfl rfl rfl (by decide +kernel) (by decide +kernel)) (fun b hb => (Option.some.inj (d2.symm.trans hb)) ▸ hM0) (by (try rw [c4]); first | done | with_reducible assumption | omega) (by (try rw [c4]); first | done | with_reducible assumption | omega) (by (try rw [c9]); first | done | with_reducible assumption | omega) (by (try rw [c13]); first | done | with_reducible assumption | omega) (by (try rw [c16]); first | done | assumption) (by (try rw [c19]); first | done | assumption) (by (try rw [c22]); first | done | assumption) (by (try rw [c26]); first | done | with_reducible assumption | omega) (fun q0 z0 => by obtain rfl := Option.some.inj ((d2).symm.trans z0); (try rw [c30]); first | done | with_reducible assumption | omega) (fun q0 z0 => by obtain rfl := Option.some.inj ((d2).symm.trans z0); (try rw [c34]); first | done | with_reducible assumption | omega) (fun q0 z0 => by obtain rfl := Option.some.inj ((d2).symm.trans z0); (try rw [c38]); first | done | with_reducible assumption | omega) (fun q0 z0 => by obtain rfl := Option.some.inj ((d2).symm.trans z0); (try rw [c42]); first | done | with_reducible assumption | omega) (fun q0 z0 => by obtain rfl := Option.some.inj ((d2).symm.trans z0); (try rw [c46]); first | done | with_reducible assumption | omega) (fun q0 z0 => by obtain rfl := Option.some.inj ((d2).symm.trans z0); (try rw [c50]); first | done | with_reducible assumption | omega) (fun q0 z0 => by obtain rfl := Option.some.inj ((d2).symm.trans z0); (try rw [c54]); first | done | with_reducible assumption | omega) (fun q0 z0 => by obtain rfl := Option.some.inj ((d2).symm.trans z0); (try rw [c58]); first | done | with_reducible assumption | omega) (by first | done | assumption) (by first | done | with_reducible assumption | omega) (by first | done | with_reducible assumption | omega) ⟨_, d2⟩) ?_
                                          rintro cn' K' N' I1075 R1076 L1077 ⟨rfl, rfl, rfl, rfl, g1078, rp1081, dj1082, -⟩
                                          have hS1083 := hS0.tr g1078 (by decide +kernel) (by decide +kernel)
                                          have c1084 : I1075 a1 0 = v29 := (g1078.cell ta1 (by decide +kernel)).trans c30
                                          have c1085 : I1075 a1 1 = v33 := (g1078.cell ta1 (by decide +kernel)).trans c34
                                          have c1086 : I1075 a1 2 = v37 := (g1078.cell ta1 (by decide +kernel)).trans c38
                                          have c1087 : I1075 a1 3 = v41 := (g1078.cell ta1 (by decide +kernel)).trans c42
                                          have c1088 : I1075 a1 4 = v45 := (g1078.cell ta1 (by decide +kernel)).trans c46
                                          have c1089 : I1075 a1 6 = v53 := (g1078.cell ta1 (by decide +kernel)).trans c54
                                          have c1090 : I1075 a1 9 = v57 := (g1078.cell ta1 (by decide +kernel)).trans c58
                                          have hO1091 : FrO 14 a1 T I0 I1075 := hO0.tr (rp1081 _ d2)
                                          rcases dj1082 with ⟨p1092, p1093, p1094, p1095, p1096, p1097, p1098, p1099, p1100, p1101, p1102, p1103, p1104, p1105, p1106, p1107, p1108, gl1109, rp1110, -⟩ | ⟨p1111, p1112, p1113, p1114, -⟩
                                          · skip
                                            have hL1115 := hL0.tr gl1109 (by decide +kernel)
                                            have p1116 := p1093 _ d2
                                            clear p1093
                                            rw [c1084] at p1116
                                            have p1117 := p1094 _ d2
                                            clear p1094
                                            rw [c1085] at p1117
                                            have p1118 := p1095 _ d2
                                            clear p1095
                                            rw [c1086] at p1118
                                            have p1119 := p1096 _ d2
                                            clear p1096
                                            rw [c1087] at p1119
                                            have p1120 := p1097 _ d2
                                            clear p1097
                                            rw [c1088] at p1120
                                            obtain ⟨v1121, c1122⟩ : ∃ v, I1075 a1 5 = v := ⟨_, rfl⟩
                                            have b1123 := iv14_5 hS1083.1 ta1 c1122
                                            have p1124 := p1098 _ d2
                                            clear p1098
                                            rw [c1122] at p1124
                                            have p1125 := p1099 _ d2
                                            clear p1099
                                            rw [c1089] at p1125
                                            have p1126 := p1100 _ d2
                                            clear p1100
                                            rw [c1090] at p1126
                                            obtain ⟨v1127, c1128⟩ : ∃ v, I1075 a0 13 = v := ⟨_, rfl⟩
                                            rw [c1128] at p1101
                                            rw [c63] at p1101
                                            obtain ⟨v1129, c1130⟩ : ∃ v, I1075 a0 9 = v := ⟨_, rfl⟩
                                            have b1131 := iv15_9 hS1083.1 ta0 c1130
                                            rw [c1130] at p1102
                                            rw [c1130] at p1103
                                            obtain ⟨v1132, c1133⟩ : ∃ v, I1075 a0 10 = v := ⟨_, rfl⟩
                                            have b1134 := iv15_10 hS1083.1 ta0 c1133
                                            rw [c1133] at p1104
                                            obtain ⟨v1135, c1136⟩ : ∃ v, I1075 a0 11 = v := ⟨_, rfl⟩
                                            rw [c1136] at p1105
                                            obtain ⟨y1137, c1138⟩ : ∃ v, L1077 a0 15 = v := ⟨_, rfl⟩
                                            rw [c1138] at p1106
                                            obtain ⟨v1139, c1140⟩ : ∃ v, I1075 a0 12 = v := ⟨_, rfl⟩
                                            rw [c1140] at p1107
                                            obtain ⟨v1141, c1142⟩ : ∃ v, I1075 a0 8 = v := ⟨_, rfl⟩
                                            have b1143 := iv15_8 hS1083.1 ta0 c1142
                                            rw [c1142] at p1108
                                            refine tr_goto 186 dX12_readLine_162 (by decide) ?_
                                            obtain ⟨v1144, c1145⟩ : ∃ v, I1075 a0 14 = v := ⟨_, rfl⟩
                                            exact tr_vret hZ dX12_readLine_186 rfl (by decide) (by decide) ⟨rfl, rfl, rfl, rfl, rfl, hS1083, (fun dr hd => (Option.some.inj (d2.symm.trans hd)) ▸ hO1091), (Or.inl ⟨(by first | done | with_reducible assumption | omega), (fun q0 z0 => by obtain rfl := Option.some.inj ((d2).symm.trans z0); (try rw [c1084]); first | done | with_reducible assumption | omega), (fun q0 z0 => by obtain rfl := Option.some.inj ((d2).symm.trans z0); (try rw [c1085]); first | done | with_reducible assumption | omega), (fun q0 z0 => by obtain rfl := Option.some.inj ((d2).symm.trans z0); (try rw [c1086]); first | done | with_reducible assumption | omega), (fun q0 z0 => by obtain rfl := Option.some.inj ((d2).symm.trans z0); (try rw [c1087]); first | done | with_reducible assumption | omega), (fun q0 z0 => by obtain rfl := Option.some.inj ((d2).symm.trans z0); (try rw [c1088]); first | done | with_reducible assumption | omega), (fun q0 z0 => by obtain rfl := Option.some.inj ((d2).symm.trans z0); (try rw [c1122]); first | done | with_reducible assumption | omega), (fun q0 z0 => by obtain rfl := Option.some.inj ((d2).symm.trans z0); (try rw [c1089]); first | done | with_reducible assumption | omega), (fun q0 z0 => by obtain rfl := Option.some.inj ((d2).symm.trans z0); (try rw [c1090]); first | done | with_reducible assumption | omega), (by (try rw [c1128]); (try rw [c63]); first | done | with_reducible assumption | omega), (by (try rw [c1130]); first | done | with_reducible assumption | omega), (by (try rw [c1130]); first | done | with_reducible assumption | omega), (by (try rw [c1133]); first | done | with_reducible assumption | omega), (by (try rw [c1136]); first | done | with_reducible assumption | omega), (by (try rw [c1138]); first | done | assumption), (by (try rw [c1140]); first | done | assumption), (by (try rw [c1142]); first | done | assumption), hL1115, (fun b hb => (Option.some.inj (d2.symm.trans hb)) ▸ (rp1110 _ d2)), trivial⟩), trivial⟩
                                          · skip
                                            obtain ⟨v1146, c1147⟩ : ∃ v, I1075 a0 9 = v := ⟨_, rfl⟩
                                            have b1148 := iv15_9 hS1083.1 ta0 c1147
                                            rw [c1147] at p1112
                                            obtain ⟨v1149, c1150⟩ : ∃ v, I1075 a0 13 = v := ⟨_, rfl⟩
                                            rw [c1150] at p1113
                                            obtain ⟨v1151, c1152⟩ : ∃ v, I1075 a0 14 = v := ⟨_, rfl⟩
                                            rw [c1152] at p1114
                                            refine tr_goto 186 dX12_readLine_162 (by decide) ?_
                                            obtain ⟨v1153, c1154⟩ : ∃ v, I1075 a1 5 = v := ⟨_, rfl⟩
                                            have b1155 := iv14_5 hS1083.1 ta1 c1154
                                            obtain ⟨v1156, c1157⟩ : ∃ v, I1075 a0 10 = v := ⟨_, rfl⟩
                                            have b1158 := iv15_10 hS1083.1 ta0 c1157
                                            obtain ⟨v1159, c1160⟩ : ∃ v, I1075 a0 11 = v := ⟨_, rfl⟩
                                            obtain ⟨y1161, c1162⟩ : ∃ v, L1077 a0 15 = v := ⟨_, rfl⟩
                                            obtain ⟨v1163, c1164⟩ : ∃ v, I1075 a0 12 = v := ⟨_, rfl⟩
                                            obtain ⟨v1165, c1166⟩ : ∃ v, I1075 a0 8 = v := ⟨_, rfl⟩
                                            have b1167 := iv15_8 hS1083.1 ta0 c1166
                                            exact tr_vret hZ dX12_readLine_186 rfl (by decide) (by decide) ⟨rfl, rfl, rfl, rfl, rfl, hS1083, (fun dr hd => (Option.some.inj (d2.symm.trans hd)) ▸ hO1091), (Or.inr (⟨(by first | done | with_reducible assumption | omega), (by (try rw [c1147]); first | done | with_reducible assumption | omega), (by (try rw [c1150]); first | done | with_reducible assumption | omega), (by (try rw [c1152]); first | done | with_reducible assumption | omega), trivial⟩)), trivial⟩
                                      · skip
                                        refine q_if_eq 165 dX12_readLine_155 (by decide) (fun h1168 => ?_) (fun h1168 => ?_)
                                        · skip
                                          refine tr_aload_n dX12_readLine_165 rfl ?_
                                          refine tr_ldcS dX12_readLine_166 ld12_184 ?_
                                          refine q_callVi hE (M' := mX12_isWord) (as := [_]) dX12_readLine_168 lk12_138 inX12_isWord seX12_isWord myX12_isWord (by decide) ⟨by decide, by decide⟩ rfl (kR15 hS0.1 ta0) (Nat.le_of_ble_eq_true rfl) rfl rfl (by decide) (by decide) (fk_X12_isWord hS0.1 (gB) (gs) ta0 (by decide) (by (try rw [c4]); first | done | with_reducible assumption | omega) (by (try rw [c16]); first | done | assumption)) ?_
                                          rintro v1174 cn' K' N' I1169 R1170 L1171 ⟨rfl, rfl, rfl, rfl, rfl, rfl, h1175, dj1176, -⟩
                                          (try rw [pk_23] at dj1176)
                                          rcases dj1176 with ⟨p1177, p1178, p1179, -⟩ | ⟨p1180, p1181, -⟩
                                          · skip
                                            have sr1182 : srt gB gs = 9 := srt_9 (by exact om_ee8a1e2d p1178) (by exact om_ec60c104 p1179)
                                            refine q_if_eq 181 dX12_readLine_171 (by decide) (fun h1183 => ?_) (fun h1183 => ?_)
                                            · skip
                                              exfalso; exact om_3624102b p1177 h1183
                                            · skip
                                              refine tr_aload_n dX12_readLine_174 rfl ?_
                                              refine q_callVv hE (M' := mX12_readSlice) (as := []) dX12_readLine_175 lk12_245 inX12_readSlice seX12_readSlice myX12_readSlice (by decide) ⟨by decide, by decide⟩ rfl (kR15 hS0.1 ta0) (Nat.le_of_ble_eq_true rfl) rfl rfl (by decide) (by decide) (fk_X12_readSlice hS0.1 (gB) (gs) (gQ) ta0 (TxA.kp hT hS0 ta0 rfl rfl rfl (by decide +kernel) (by decide +kernel)) (fun b hb => (Option.some.inj (d2.symm.trans hb)) ▸ hM0) (by (try rw [c4]); first | done | with_reducible assumption | omega) (by (try rw [c4]); first | done | with_reducible assumption | omega) (by (try rw [c9]); first | done | with_reducible assumption | omega) (by (try rw [c13]); first | done | with_reducible assumption | omega) (by (try rw [c16]); first | done | assumption) (by (try rw [c19]); first | done | assumption) (by (try rw [c22]); first | done | assumption) (by (try rw [c26]); first | done | with_reducible assumption | omega) (fun q0 z0 => by obtain rfl := Option.some.inj ((d2).symm.trans z0); (try rw [c30]); first | done | with_reducible assumption | omega) (fun q0 z0 => by obtain rfl := Option.some.inj ((d2).symm.trans z0); (try rw [c34]); first | done | with_reducible assumption | omega) (fun q0 z0 => by obtain rfl := Option.some.inj ((d2).symm.trans z0); (try rw [c38]); first | done | with_reducible assumption | omega) (fun q0 z0 => by obtain rfl := Option.some.inj ((d2).symm.trans z0); (try rw [c42]); first | done | with_reducible assumption | omega) (fun q0 z0 => by obtain rfl := Option.some.inj ((d2).symm.trans z0); (try rw [c46]); first | done | with_reducible assumption | omega) (fun q0 z0 => by obtain rfl := Option.some.inj ((d2).symm.trans z0); (try rw [c50]); first | done | with_reducible assumption | omega) (fun q0 z0 => by obtain rfl := Option.some.inj ((d2).symm.trans z0); (try rw [c54]); first | done | with_reducible assumption | omega) (fun q0 z0 => by obtain rfl := Option.some.inj ((d2).symm.trans z0); (try rw [c58]); first | done | with_reducible assumption | omega) (by first | done | assumption) (by first | done | with_reducible assumption | omega) (by first | done | with_reducible assumption | omega) ⟨_, d2⟩) ?_
                                              rintro cn' K' N' I1184 R1185 L1186 ⟨rfl, rfl, rfl, rfl, g1187, rp1190, dj1191, -⟩
                                              have hS1192 := hS0.tr g1187 (by decide +kernel) (by decide +kernel)
                                              have c1193 : I1184 a1 0 = v29 := (g1187.cell ta1 (by decide +kernel)).trans c30
                                              have c1194 : I1184 a1 1 = v33 := (g1187.cell ta1 (by decide +kernel)).trans c34
                                              have c1195 : I1184 a1 2 = v37 := (g1187.cell ta1 (by decide +kernel)).trans c38
                                              have c1196 : I1184 a1 3 = v41 := (g1187.cell ta1 (by decide +kernel)).trans c42
                                              have c1197 : I1184 a1 4 = v45 := (g1187.cell ta1 (by decide +kernel)).trans c46
                                              have c1198 : I1184 a1 5 = v49 := (g1187.cell ta1 (by decide +kernel)).trans c50
                                              have c1199 : I1184 a1 9 = v57 := (g1187.cell ta1 (by decide +kernel)).trans c58
                                              have hO1200 : FrO 14 a1 T I0 I1184 := hO0.tr (rp1190 _ d2)
                                              rcases dj1191 with ⟨p1201, p1202, p1203, p1204, p1205, p1206, p1207, p1208, p1209, p1210, p1211, p1212, p1213, p1214, p1215, p1216, p1217, gl1218, rp1219, -⟩ | ⟨p1220, p1221, p1222, p1223, -⟩
                                              · skip
                                                have hL1224 := hL0.tr gl1218 (by decide +kernel)
                                                have p1225 := p1202 _ d2
                                                clear p1202
                                                rw [c1193] at p1225
                                                have p1226 := p1203 _ d2
                                                clear p1203
                                                rw [c1194] at p1226
                                                have p1227 := p1204 _ d2
                                                clear p1204
                                                rw [c1195] at p1227
                                                have p1228 := p1205 _ d2
                                                clear p1205
                                                rw [c1196] at p1228
                                                have p1229 := p1206 _ d2
                                                clear p1206
                                                rw [c1197] at p1229
                                                have p1230 := p1207 _ d2
                                                clear p1207
                                                rw [c1198] at p1230
                                                obtain ⟨v1231, c1232⟩ : ∃ v, I1184 a1 6 = v := ⟨_, rfl⟩
                                                have b1233 := iv14_6 hS1192.1 ta1 c1232
                                                have p1234 := p1208 _ d2
                                                clear p1208
                                                rw [c1232] at p1234
                                                have p1235 := p1209 _ d2
                                                clear p1209
                                                rw [c1199] at p1235
                                                obtain ⟨v1236, c1237⟩ : ∃ v, I1184 a0 13 = v := ⟨_, rfl⟩
                                                rw [c1237] at p1210
                                                rw [c63] at p1210
                                                obtain ⟨v1238, c1239⟩ : ∃ v, I1184 a0 9 = v := ⟨_, rfl⟩
                                                have b1240 := iv15_9 hS1192.1 ta0 c1239
                                                rw [c1239] at p1211
                                                rw [c1239] at p1212
                                                obtain ⟨v1241, c1242⟩ : ∃ v, I1184 a0 10 = v := ⟨_, rfl⟩
                                                have b1243 := iv15_10 hS1192.1 ta0 c1242
                                                rw [c1242] at p1213
                                                obtain ⟨v1244, c1245⟩ : ∃ v, I1184 a0 11 = v := ⟨_, rfl⟩
                                                rw [c1245] at p1214
                                                obtain ⟨y1246, c1247⟩ : ∃ v, L1186 a0 15 = v := ⟨_, rfl⟩
                                                rw [c1247] at p1215
                                                obtain ⟨v1248, c1249⟩ : ∃ v, I1184 a0 12 = v := ⟨_, rfl⟩
                                                rw [c1249] at p1216
                                                obtain ⟨v1250, c1251⟩ : ∃ v, I1184 a0 8 = v := ⟨_, rfl⟩
                                                have b1252 := iv15_8 hS1192.1 ta0 c1251
                                                rw [c1251] at p1217
                                                refine tr_goto 186 dX12_readLine_178 (by decide) ?_
                                                obtain ⟨v1253, c1254⟩ : ∃ v, I1184 a0 14 = v := ⟨_, rfl⟩
                                                exact tr_vret hZ dX12_readLine_186 rfl (by decide) (by decide) ⟨rfl, rfl, rfl, rfl, rfl, hS1192, (fun dr hd => (Option.some.inj (d2.symm.trans hd)) ▸ hO1200), (Or.inl ⟨(by first | done | with_reducible assumption | omega), (fun q0 z0 => by obtain rfl := Option.some.inj ((d2).symm.trans z0); (try rw [c1193]); first | done | with_reducible assumption | omega), (fun q0 z0 => by obtain rfl := Option.some.inj ((d2).symm.trans z0); (try rw [c1194]); first | done | with_reducible assumption | omega), (fun q0 z0 => by obtain rfl := Option.some.inj ((d2).symm.trans z0); (try rw [c1195]); first | done | with_reducible assumption | omega), (fun q0 z0 => by obtain rfl := Option.some.inj ((d2).symm.trans z0); (try rw [c1196]); first | done | with_reducible assumption | omega), (fun q0 z0 => by obtain rfl := Option.some.inj ((d2).symm.trans z0); (try rw [c1197]); first | done | with_reducible assumption | omega), (fun q0 z0 => by obtain rfl := Option.some.inj ((d2).symm.trans z0); (try rw [c1198]); first | done | with_reducible assumption | omega), (fun q0 z0 => by obtain rfl := Option.some.inj ((d2).symm.trans z0); (try rw [c1232]); first | done | with_reducible assumption | omega), (fun q0 z0 => by obtain rfl := Option.some.inj ((d2).symm.trans z0); (try rw [c1199]); first | done | with_reducible assumption | omega), (by (try rw [c1237]); (try rw [c63]); first | done | with_reducible assumption | omega), (by (try rw [c1239]); first | done | with_reducible assumption | omega), (by (try rw [c1239]); first | done | with_reducible assumption | omega), (by (try rw [c1242]); first | done | with_reducible assumption | omega), (by (try rw [c1245]); first | done | with_reducible assumption | omega), (by (try rw [c1247]); first | done | assumption), (by (try rw [c1249]); first | done | assumption), (by (try rw [c1251]); first | done | assumption), hL1224, (fun b hb => (Option.some.inj (d2.symm.trans hb)) ▸ (rp1219 _ d2)), trivial⟩), trivial⟩
                                              · skip
                                                obtain ⟨v1255, c1256⟩ : ∃ v, I1184 a0 9 = v := ⟨_, rfl⟩
                                                have b1257 := iv15_9 hS1192.1 ta0 c1256
                                                rw [c1256] at p1221
                                                obtain ⟨v1258, c1259⟩ : ∃ v, I1184 a0 13 = v := ⟨_, rfl⟩
                                                rw [c1259] at p1222
                                                obtain ⟨v1260, c1261⟩ : ∃ v, I1184 a0 14 = v := ⟨_, rfl⟩
                                                rw [c1261] at p1223
                                                refine tr_goto 186 dX12_readLine_178 (by decide) ?_
                                                obtain ⟨v1262, c1263⟩ : ∃ v, I1184 a1 6 = v := ⟨_, rfl⟩
                                                have b1264 := iv14_6 hS1192.1 ta1 c1263
                                                obtain ⟨v1265, c1266⟩ : ∃ v, I1184 a0 10 = v := ⟨_, rfl⟩
                                                have b1267 := iv15_10 hS1192.1 ta0 c1266
                                                obtain ⟨v1268, c1269⟩ : ∃ v, I1184 a0 11 = v := ⟨_, rfl⟩
                                                obtain ⟨y1270, c1271⟩ : ∃ v, L1186 a0 15 = v := ⟨_, rfl⟩
                                                obtain ⟨v1272, c1273⟩ : ∃ v, I1184 a0 12 = v := ⟨_, rfl⟩
                                                obtain ⟨v1274, c1275⟩ : ∃ v, I1184 a0 8 = v := ⟨_, rfl⟩
                                                have b1276 := iv15_8 hS1192.1 ta0 c1275
                                                exact tr_vret hZ dX12_readLine_186 rfl (by decide) (by decide) ⟨rfl, rfl, rfl, rfl, rfl, hS1192, (fun dr hd => (Option.some.inj (d2.symm.trans hd)) ▸ hO1200), (Or.inr (⟨(by first | done | with_reducible assumption | omega), (by (try rw [c1256]); first | done | with_reducible assumption | omega), (by (try rw [c1259]); first | done | with_reducible assumption | omega), (by (try rw [c1261]); first | done | with_reducible assumption | omega), trivial⟩)), trivial⟩
                                          · skip
                                            refine q_if_eq 181 dX12_readLine_171 (by decide) (fun h1277 => ?_) (fun h1277 => ?_)
                                            · skip
                                              have sr1278 : srt gB gs = -1 := srt_nw p190 p301 p412 p523 p634 p745 p854 p963 p1072 p1181 p76
                                              obtain ⟨sr1278a, sr1278b⟩ := lnF_no (Q := gQ) sr1278
                                              refine tr_aload_n dX12_readLine_181 rfl ?_
                                              refine q_iconst dX12_readLine_182 (by decide) ?_
                                              intro v1279 h1280
                                              refine q_callVv hE (M' := mX12_flaw) (as := [_]) dX12_readLine_183 lk12_145 inX12_flaw seX12_flaw myX12_flaw (by decide) ⟨by decide, by decide⟩ rfl (kR15 hS0.1 ta0) (Nat.le_of_ble_eq_true rfl) rfl rfl (by decide) (by decide) (fk_X12_flaw hS0.1  ta0 (by exact om_95922198 h1280) (by (try rw [c4]); first | done | with_reducible assumption | exact om_df98ac7c pre0 pre1 b5.2 b5.1 p6)) ?_
                                              rintro cn' K' N' I1281 R1282 L1283 ⟨rfl, rfl, rfl, rfl, rfl, g1284, p1287, p1288, p1289, -⟩
                                              have hM1290 : NmM I1281 R0 L0 a1 gQ := NmM.kpS hM0 g1284 hS0.1 ta1 (by decide +kernel) (by decide +kernel)
                                              have hS1291 := hS0.tr g1284 (by decide +kernel) (by decide +kernel)
                                              have c1292 : I1281 a0 10 = v8 := (g1284.cell ta0 (by decide +kernel)).trans c9
                                              have c1293 : I1281 a0 11 = v12 := (g1284.cell ta0 (by decide +kernel)).trans c13
                                              have c1294 : I1281 a0 12 = v18 := (g1284.cell ta0 (by decide +kernel)).trans c19
                                              have c1295 : I1281 a0 8 = v21 := (g1284.cell ta0 (by decide +kernel)).trans c22
                                              have c1296 : I1281 a1 0 = v29 := (g1284.cell ta1 (by decide +kernel)).trans c30
                                              have c1297 : I1281 a1 1 = v33 := (g1284.cell ta1 (by decide +kernel)).trans c34
                                              have c1298 : I1281 a1 2 = v37 := (g1284.cell ta1 (by decide +kernel)).trans c38
                                              have c1299 : I1281 a1 3 = v41 := (g1284.cell ta1 (by decide +kernel)).trans c42
                                              have c1300 : I1281 a1 4 = v45 := (g1284.cell ta1 (by decide +kernel)).trans c46
                                              have c1301 : I1281 a1 5 = v49 := (g1284.cell ta1 (by decide +kernel)).trans c50
                                              have c1302 : I1281 a1 6 = v53 := (g1284.cell ta1 (by decide +kernel)).trans c54
                                              have c1303 : I1281 a1 9 = v57 := (g1284.cell ta1 (by decide +kernel)).trans c58
                                              have hO1304 : FrO 14 a1 T I0 I1281 := hO0.st g1284 (by decide +kernel)
                                              obtain ⟨v1305, c1306⟩ : ∃ v, I1281 a0 9 = v := ⟨_, rfl⟩
                                              have b1307 := iv15_9 hS1291.1 ta0 c1306
                                              rw [c1306] at p1287
                                              obtain ⟨v1308, c1309⟩ : ∃ v, I1281 a0 13 = v := ⟨_, rfl⟩
                                              rw [c1309] at p1288
                                              obtain ⟨v1310, c1311⟩ : ∃ v, I1281 a0 14 = v := ⟨_, rfl⟩
                                              rw [c1311] at p1289
                                              rw [c9] at p1289
                                              exact tr_vret hZ dX12_readLine_186 rfl (by decide) (by decide) ⟨rfl, rfl, rfl, rfl, rfl, hS1291, (fun dr hd => (Option.some.inj (d2.symm.trans hd)) ▸ hO1304), (Or.inr (⟨(by first | done | with_reducible assumption | exact om_7fac24c5 sr1278a), (by (try rw [c1306]); first | done | with_reducible assumption | omega), (by (try rw [c1309]); first | done | with_reducible assumption | exact om_6150db85 sr1278a h1280 p1288), (by (try rw [c1311]); first | done | with_reducible assumption | exact om_8d7ca2fb p11 sr1278b p1289), trivial⟩)), trivial⟩
                                            · skip
                                              exfalso; exact om_3a97d4a5 p1180 h1277
                                        · skip
                                          exfalso; exact om_3a97d4a5 p1071 h1168
                                    · skip
                                      exfalso; exact om_3a97d4a5 p962 h1059
                                · skip
                                  exfalso; exact om_3a97d4a5 p853 h950
                            · skip
                              exfalso; exact om_3a97d4a5 p744 h841
                        · skip
                          exfalso; exact om_3a97d4a5 p633 h732
                    · skip
                      exfalso; exact om_3a97d4a5 p522 h621
                · skip
                  exfalso; exact om_3a97d4a5 p411 h510
            · skip
              exfalso; exact om_3a97d4a5 p300 h399
        · skip
          exfalso; exact om_3a97d4a5 p189 h288
    · skip
      exfalso; exact om_3a97d4a5 p75 h177
def wik_X12_readAll : List Nat := [896, 897, 898, 899, 900, 901, 902, 903, 904, 905, 968, 969, 970, 971, 972, 973, 974, 3455, 3519, 3583, 3647, 3711, 3775, 3839, 3903, 3967, 4031, 4095, 4159, 4223, 4287, 4351, 4415, 4479, 4543, 4607, 4671, 4799, 4863]
def wrk_X12_readAll : List Nat := []
def wlk_X12_readAll : List Nat := [975, 4735]
set_option maxHeartbeats 4000000 in
theorem fk_X12_readAll {l : Launch} {T : Nat → Nat} {cn : Nat} {K N : Nat → Nat} {I0 : cz_I} {R0 : cz_R} {L0 : cz_L} (hW0 : Wf T cn K N I0 R0 0) (gB : cz_B) {a0 : Nat} (ta0 : T a0 = 15) (hT : ∀ t, R0 a0 5 = some t → Tx I0 t gB) (hN : ∀ b, R0 a0 4 = some b → NmM I0 R0 L0 b Q00) (pre0 : (I0 a0 9).toInt = (tkM gB 0)) (pre1 : (I0 a0 9).toInt ≤ 4) (pre2 : (I0 a0 10).toInt = (tkS gB 0)) (pre3 : (I0 a0 11).toInt = (tkG gB 0)) (pre4 : (AtW ((tkK gB 0)) ((L0 a0 15).toInt) ((tkW gB 0)))) (pre5 : (AtV ((tkK gB 0)) ((I0 a0 12).toInt) ((tkV gB 0)))) (pre6 : (AtN ((tkK gB 0)) ((I0 a0 8).toInt) ((tkN gB 0)))) (pre7 : (I0 a0 7).toInt = (gB.2)) (pre8 : ∀ b1, R0 a0 4 = some b1 → (I0 b1 0).toInt = (Q00 0)) (pre9 : ∀ b1, R0 a0 4 = some b1 → (I0 b1 1).toInt = (Q00 1)) (pre10 : ∀ b1, R0 a0 4 = some b1 → (I0 b1 2).toInt = (Q00 2)) (pre11 : ∀ b1, R0 a0 4 = some b1 → (I0 b1 3).toInt = (Q00 3)) (pre12 : ∀ b1, R0 a0 4 = some b1 → (I0 b1 4).toInt = (Q00 4)) (pre13 : ∀ b1, R0 a0 4 = some b1 → (I0 b1 5).toInt = (Q00 5)) (pre14 : ∀ b1, R0 a0 4 = some b1 → (I0 b1 6).toInt = (Q00 6)) (pre15 : ∀ b1, R0 a0 4 = some b1 → (I0 b1 9).toInt = (Q00 8)) (nn4 : ∃ b, R0 a0 4 = some b) : ConE l mX12_readAll [.ref a0] cn K N I0 R0 L0 (ca_v (fun cn' K' N' I' R' L' => cn = cn' ∧ K = K' ∧ N = N' ∧ R0 = R' ∧ St T cn K N 0 wik_X12_readAll wrk_X12_readAll I0 R0 I' R0 ∧ (∀ dr, R0 a0 4 = some dr → FrO 14 dr T I0 I') ∧ ((((lsF gB 901 0 Q00) = 0) ∧ ((I' a0 13).toInt = (I0 a0 13).toInt) ∧ (∀ b1, R0 a0 4 = some b1 → (I' b1 3).toInt = (lsC gB 901 0 Q00)) ∧ ((I' a0 9).toInt ≤ 4) ∧ (∀ b1, R0 a0 4 = some b1 → (I' b1 0).toInt ≥ 1) ∧ (∀ b1, R0 a0 4 = some b1 → (I' b1 0).toInt = (lsA0 gB 901 0 Q00)) ∧ (∀ b1, R0 a0 4 = some b1 → (I' b1 5).toInt = (lsA5 gB 901 0 Q00)) ∧ LgS T wlk_X12_readAll L0 L' ∧ True) ∨ (((lsF gB 901 0 Q00) ≠ 0) ∧ ((I' a0 9).toInt = 5) ∧ ((I' a0 13).toInt = (lsF gB 901 0 Q00)) ∧ ((I' a0 14).toInt = (lsP gB 901 0 Q00)) ∧ True)) ∧ True)) := by
  refine ConE.of (by decide +kernel) rfl (Nat.le_of_ble_eq_true rfl) rfl (fun X hX hZ hE => ?_)
  subst hX
  have hS0 : St T cn K N 0 wik_X12_readAll wrk_X12_readAll I0 R0 I0 R0 := St.rf0 hW0
  have hL0 : LgS T wlk_X12_readAll L0 L0 := LgS.rf0
  obtain ⟨a1, d2⟩ := nn4
  have ta1 : T a1 = 14 := hW0.rsN ta0 rfl d2
  obtain ⟨v3, c4⟩ : ∃ v, I0 a0 9 = v := ⟨_, rfl⟩
  have b5 := iv15_9 hS0.1 ta0 c4
  have p6 := pre0
  rw [c4] at p6
  have p7 := pre1
  rw [c4] at p7
  obtain ⟨v8, c9⟩ : ∃ v, I0 a0 10 = v := ⟨_, rfl⟩
  have b10 := iv15_10 hS0.1 ta0 c9
  have p11 := pre2
  rw [c9] at p11
  obtain ⟨v12, c13⟩ : ∃ v, I0 a0 11 = v := ⟨_, rfl⟩
  have p14 := pre3
  rw [c13] at p14
  obtain ⟨y15, c16⟩ : ∃ v, L0 a0 15 = v := ⟨_, rfl⟩
  have p17 := pre4
  rw [c16] at p17
  obtain ⟨v18, c19⟩ : ∃ v, I0 a0 12 = v := ⟨_, rfl⟩
  have p20 := pre5
  rw [c19] at p20
  obtain ⟨v21, c22⟩ : ∃ v, I0 a0 8 = v := ⟨_, rfl⟩
  have b23 := iv15_8 hS0.1 ta0 c22
  have p24 := pre6
  rw [c22] at p24
  obtain ⟨v25, c26⟩ : ∃ v, I0 a0 7 = v := ⟨_, rfl⟩
  have b27 := iv15_7 hW0 ta0 c26
  have p28 := pre7
  rw [c26] at p28
  obtain ⟨v29, c30⟩ : ∃ v, I0 a1 0 = v := ⟨_, rfl⟩
  have b31 := iv14_0 hS0.1 ta1 c30
  have p32 := pre8 _ d2
  rw [c30] at p32
  obtain ⟨v33, c34⟩ : ∃ v, I0 a1 1 = v := ⟨_, rfl⟩
  have b35 := iv14_1 hS0.1 ta1 c34
  have p36 := pre9 _ d2
  rw [c34] at p36
  obtain ⟨v37, c38⟩ : ∃ v, I0 a1 2 = v := ⟨_, rfl⟩
  have b39 := iv14_2 hS0.1 ta1 c38
  have p40 := pre10 _ d2
  rw [c38] at p40
  obtain ⟨v41, c42⟩ : ∃ v, I0 a1 3 = v := ⟨_, rfl⟩
  have b43 := iv14_3 hS0.1 ta1 c42
  have p44 := pre11 _ d2
  rw [c42] at p44
  obtain ⟨v45, c46⟩ : ∃ v, I0 a1 4 = v := ⟨_, rfl⟩
  have b47 := iv14_4 hS0.1 ta1 c46
  have p48 := pre12 _ d2
  rw [c46] at p48
  obtain ⟨v49, c50⟩ : ∃ v, I0 a1 5 = v := ⟨_, rfl⟩
  have b51 := iv14_5 hS0.1 ta1 c50
  have p52 := pre13 _ d2
  rw [c50] at p52
  obtain ⟨v53, c54⟩ : ∃ v, I0 a1 6 = v := ⟨_, rfl⟩
  have b55 := iv14_6 hS0.1 ta1 c54
  have p56 := pre14 _ d2
  rw [c54] at p56
  obtain ⟨v57, c58⟩ : ∃ v, I0 a1 9 = v := ⟨_, rfl⟩
  have b59 := iv14_9 hS0.1 ta1 c58
  have p60 := pre15 _ d2
  rw [c58] at p60
  obtain ⟨v61, c62⟩ : ∃ v, I0 a0 13 = v := ⟨_, rfl⟩
  have hM0 := hN _ d2
  have hO0 : FrO 14 a1 T I0 I0 := FrO.rf
  have q00_0 : Q00 0 = 0 := rfl
  have q00_1 : Q00 1 = 0 := rfl
  have q00_2 : Q00 2 = 0 := rfl
  have q00_3 : Q00 3 = 0 := rfl
  have q00_4 : Q00 4 = 0 := rfl
  have q00_5 : Q00 5 = 0 := rfl
  have q00_6 : Q00 6 = 0 := rfl
  have q00_7 : Q00 7 = 0 := rfl
  have q00_8 : Q00 8 = 0 := rfl
  refine q_iconst dX12_readAll_0 (by decide) ?_
  intro v63 h64
  refine tr_istore_n dX12_readAll_1 (by decide) (by decide) ?_
  have lp131 : ∀ (fu : Nat) (ls : Nat → Option Value) (v65 : Int32) (I68 : cz_I) (L69 : cz_L) (gs70 : Int) (gr71 : Nat) (gQ72 : Nat → Int) (v77 : Int32) (v79 : Int32) (v81 : Int32) (v83 : Int32) (y85 : Int64) (v87 : Int32) (v89 : Int32) (v91 : Int32) (v93 : Int32) (v95 : Int32) (v97 : Int32) (v99 : Int32) (v101 : Int32) (v103 : Int32) (v105 : Int32), ls 0 = some (.ref a0) → ls 1 = some (.int v65) → St T cn K N 0 wik_X12_readAll wrk_X12_readAll I0 R0 I68 R0 → LgS T wlk_X12_readAll L0 L69 → NmM I68 R0 L69 a1 gQ72 → FrO 14 a1 T I0 I68 → I68 a0 13 = v77 → I68 a0 9 = v79 → I68 a0 10 = v81 → I68 a0 11 = v83 → L69 a0 15 = y85 → I68 a0 12 = v87 → I68 a0 8 = v89 → I68 a1 0 = v91 → I68 a1 1 = v93 → I68 a1 2 = v95 → I68 a1 3 = v97 → I68 a1 4 = v99 → I68 a1 5 = v101 → I68 a1 6 = v103 → I68 a1 9 = v105 → (lsF gB gr71 gs70 gQ72) = (lsF gB 901 0 Q00) → (lsP gB gr71 gs70 gQ72) = (lsP gB 901 0 Q00) → (lsC gB gr71 gs70 gQ72) = (lsC gB 901 0 Q00) → (lsA0 gB gr71 gs70 gQ72) = (lsA0 gB 901 0 Q00) → (lsA5 gB gr71 gs70 gQ72) = (lsA5 gB 901 0 Q00) → v65.toInt = 1 → ((gr71 : Int)) + v81.toInt ≥ 901 → v77.toInt = v61.toInt → v79.toInt = (tkM gB gs70) → v79.toInt ≤ 4 → v81.toInt = (tkS gB gs70) → v83.toInt = (tkG gB gs70) → (AtW ((tkK gB gs70)) (y85.toInt) ((tkW gB gs70))) → (AtV ((tkK gB gs70)) (v87.toInt) ((tkV gB gs70))) → (AtN ((tkK gB gs70)) (v89.toInt) ((tkN gB gs70))) → v91.toInt = (gQ72 0) → v93.toInt = (gQ72 1) → v95.toInt = (gQ72 2) → v97.toInt = (gQ72 3) → v99.toInt = (gQ72 4) → v101.toInt = (gQ72 5) → v103.toInt = (gQ72 6) → v105.toInt = (gQ72 8) → (Q7M ((gQ72 0)) ((gQ72 7))) → (-v81.toInt + 900).toNat < fu → Tr X mX12_readAll 2 ls [] cn K N I68 R0 L69 0 0 := by
    intro fu
    induction fu with
    | zero => intros; rename_i hz; exact absurd hz (Nat.not_lt_zero _)
    | succ fu ih131 =>
      intro ls v65 I68 L69 gs70 gr71 gQ72 v77 v79 v81 v83 y85 v87 v89 v91 v93 v95 v97 v99 v101 v103 v105 hl66 hl67 hS73 hL74 hM75 hO76 c78 c80 c82 c84 c86 c88 c90 c92 c94 c96 c98 c100 c102 c104 c106 g107 g108 g109 g110 g111 g112 g113 g114 g115 g116 g117 g118 g119 g120 g121 g122 g123 g124 g125 g126 g127 g128 g129 g130 hm131
      have b133 := iv15_9 hS73.1 ta0 c80
      have b134 := iv15_10 hS73.1 ta0 c82
      have b135 := iv15_8 hS73.1 ta0 c90
      have b136 := iv14_0 hS73.1 ta1 c92
      have b137 := iv14_1 hS73.1 ta1 c94
      have b138 := iv14_2 hS73.1 ta1 c96
      have b139 := iv14_3 hS73.1 ta1 c98
      have b140 := iv14_4 hS73.1 ta1 c100
      have b141 := iv14_5 hS73.1 ta1 c102
      have b142 := iv14_6 hS73.1 ta1 c104
      have b143 := iv14_9 hS73.1 ta1 c106
      rcases Nat.eq_zero_or_pos gr71 with hz144 | hz144
      · skip
        subst hz144
        exfalso; exact om_71ebda56 g117 b134.2 b134.1 g113
      · skip
        obtain ⟨gk145, rfl⟩ : ∃ k, gr71 = k + 1 := ⟨gr71 - 1, by exact om_dc97010f hz144⟩
        refine tr_iload_n dX12_readAll_2 hl67 ?_
        refine q_if_eq 20 dX12_readAll_3 (by decide) (fun h146 => ?_) (fun h146 => ?_)
        · skip
          exfalso; exact om_3624102b g112 h146
        · skip
          refine tr_aload_n dX12_readAll_6 hl66 ?_
          refine q_callVv hE (M' := mX12_readLine) (as := []) dX12_readAll_7 lk12_218 inX12_readLine seX12_readLine myX12_readLine (by decide) ⟨by decide, by decide⟩ rfl (kR15 hS73.1 ta0) (Nat.le_of_ble_eq_true rfl) rfl rfl (by decide) (by decide) (fk_X12_readLine hS73.1 (gB) (gs70) (gQ72) ta0 (TxA.kp hT hS73 ta0 rfl rfl rfl (by decide +kernel) (by decide +kernel)) (fun b hb => (Option.some.inj (d2.symm.trans hb)) ▸ hM75) (by (try rw [c80]); first | done | with_reducible assumption | omega) (by (try rw [c80]); first | done | with_reducible assumption | omega) (by (try rw [c82]); first | done | with_reducible assumption | omega) (by (try rw [c84]); first | done | with_reducible assumption | omega) (by (try rw [c86]); first | done | assumption) (by (try rw [c88]); first | done | assumption) (by (try rw [c90]); first | done | assumption) (by (try rw [((hS73.cell ta0 (by decide +kernel)).trans c26)]); first | done | with_reducible assumption | omega) (fun q0 z0 => by obtain rfl := Option.some.inj ((d2).symm.trans z0); (try rw [c92]); first | done | with_reducible assumption | omega) (fun q0 z0 => by obtain rfl := Option.some.inj ((d2).symm.trans z0); (try rw [c94]); first | done | with_reducible assumption | omega) (fun q0 z0 => by obtain rfl := Option.some.inj ((d2).symm.trans z0); (try rw [c96]); first | done | with_reducible assumption | omega) (fun q0 z0 => by obtain rfl := Option.some.inj ((d2).symm.trans z0); (try rw [c98]); first | done | with_reducible assumption | omega) (fun q0 z0 => by obtain rfl := Option.some.inj ((d2).symm.trans z0); (try rw [c100]); first | done | with_reducible assumption | omega) (fun q0 z0 => by obtain rfl := Option.some.inj ((d2).symm.trans z0); (try rw [c102]); first | done | with_reducible assumption | omega) (fun q0 z0 => by obtain rfl := Option.some.inj ((d2).symm.trans z0); (try rw [c104]); first | done | with_reducible assumption | omega) (fun q0 z0 => by obtain rfl := Option.some.inj ((d2).symm.trans z0); (try rw [c106]); first | done | with_reducible assumption | omega) (by first | done | assumption) ⟨_, d2⟩) ?_
          rintro cn' K' N' I147 R148 L149 ⟨rfl, rfl, rfl, rfl, g150, rp153, dj154, -⟩
          have hS155 := hS73.tr g150 (by decide +kernel) (by decide +kernel)
          have hO156 : FrO 14 a1 T I0 I147 := hO76.tr (rp153 _ d2)
          rcases dj154 with ⟨p157, p158, p159, p160, p161, p162, p163, p164, p165, p166, p167, p168, p169, p170, p171, p172, p173, gl174, rp175, -⟩ | ⟨p176, p177, p178, p179, -⟩
          · skip
            have hL180 := hL74.tr gl174 (by decide +kernel)
            obtain ⟨v181, c182⟩ : ∃ v, I147 a1 0 = v := ⟨_, rfl⟩
            have b183 := iv14_0 hS155.1 ta1 c182
            have p184 := p158 _ d2
            clear p158
            rw [c182] at p184
            obtain ⟨v185, c186⟩ : ∃ v, I147 a1 1 = v := ⟨_, rfl⟩
            have b187 := iv14_1 hS155.1 ta1 c186
            have p188 := p159 _ d2
            clear p159
            rw [c186] at p188
            obtain ⟨v189, c190⟩ : ∃ v, I147 a1 2 = v := ⟨_, rfl⟩
            have b191 := iv14_2 hS155.1 ta1 c190
            have p192 := p160 _ d2
            clear p160
            rw [c190] at p192
            obtain ⟨v193, c194⟩ : ∃ v, I147 a1 3 = v := ⟨_, rfl⟩
            have b195 := iv14_3 hS155.1 ta1 c194
            have p196 := p161 _ d2
            clear p161
            rw [c194] at p196
            obtain ⟨v197, c198⟩ : ∃ v, I147 a1 4 = v := ⟨_, rfl⟩
            have b199 := iv14_4 hS155.1 ta1 c198
            have p200 := p162 _ d2
            clear p162
            rw [c198] at p200
            obtain ⟨v201, c202⟩ : ∃ v, I147 a1 5 = v := ⟨_, rfl⟩
            have b203 := iv14_5 hS155.1 ta1 c202
            have p204 := p163 _ d2
            clear p163
            rw [c202] at p204
            obtain ⟨v205, c206⟩ : ∃ v, I147 a1 6 = v := ⟨_, rfl⟩
            have b207 := iv14_6 hS155.1 ta1 c206
            have p208 := p164 _ d2
            clear p164
            rw [c206] at p208
            obtain ⟨v209, c210⟩ : ∃ v, I147 a1 9 = v := ⟨_, rfl⟩
            have b211 := iv14_9 hS155.1 ta1 c210
            have p212 := p165 _ d2
            clear p165
            rw [c210] at p212
            obtain ⟨v213, c214⟩ : ∃ v, I147 a0 13 = v := ⟨_, rfl⟩
            rw [c214] at p166
            rw [c78] at p166
            obtain ⟨v215, c216⟩ : ∃ v, I147 a0 9 = v := ⟨_, rfl⟩
            have b217 := iv15_9 hS155.1 ta0 c216
            rw [c216] at p167
            rw [c216] at p168
            obtain ⟨v218, c219⟩ : ∃ v, I147 a0 10 = v := ⟨_, rfl⟩
            have b220 := iv15_10 hS155.1 ta0 c219
            rw [c219] at p169
            obtain ⟨v221, c222⟩ : ∃ v, I147 a0 11 = v := ⟨_, rfl⟩
            rw [c222] at p170
            obtain ⟨y223, c224⟩ : ∃ v, L149 a0 15 = v := ⟨_, rfl⟩
            rw [c224] at p171
            obtain ⟨v225, c226⟩ : ∃ v, I147 a0 12 = v := ⟨_, rfl⟩
            rw [c226] at p172
            obtain ⟨v227, c228⟩ : ∃ v, I147 a0 8 = v := ⟨_, rfl⟩
            have b229 := iv15_8 hS155.1 ta0 c228
            rw [c228] at p173
            obtain ⟨lq230, lq230a, lq230b⟩ := Q7M.ln (B := gB) (Q := gQ72) (s := gs70) (by exact om_29f55913 p157) g130
            refine tr_aload_n dX12_readAll_10 hl66 ?_
            refine q_bipush dX12_readAll_11 (by decide +kernel) ?_
            intro v231 h232
            refine q_callVi hE (M' := mX12_eatsSign) (as := [_]) dX12_readAll_13 lk12_221 inX12_eatsSign seX12_eatsSign myX12_eatsSign (by decide) ⟨by decide, by decide⟩ rfl (kR15 hS155.1 ta0) (Nat.le_of_ble_eq_true rfl) rfl rfl (by decide) (by decide) (fk_X12_eatsSign hS155.1 (gB) ((lnS gB gQ72 gs70)) ta0 (TxA.kp hT hS155 ta0 rfl rfl rfl (by decide +kernel) (by decide +kernel)) (by (try rw [c216]); first | done | with_reducible assumption | omega) (by (try rw [c216]); first | done | with_reducible assumption | omega) (by (try rw [c219]); first | done | with_reducible assumption | omega) (by (try rw [c222]); first | done | with_reducible assumption | omega) (by (try rw [c224]); first | done | assumption) (by (try rw [c226]); first | done | assumption) (by (try rw [c228]); first | done | assumption) (by (try rw [((hS155.cell ta0 (by decide +kernel)).trans c26)]); first | done | with_reducible assumption | omega) (by first | done | with_reducible assumption | exact om_ad8d03bd h232)) ?_
            rintro v238 cn' K' N' I233 R234 L235 ⟨rfl, rfl, rfl, rfl, g236, gl237, h239, dj240, -⟩
            have hM241 : NmM I233 R0 L149 a1 (lnQ gB gQ72 gs70) := NmM.kpS (rp175 _ d2) g236 hS155.1 ta1 (by decide +kernel) (by decide +kernel)
            have hS242 := hS155.tr g236 (by decide +kernel) (by decide +kernel)
            have c243 : I233 a1 0 = v181 := (g236.cell ta1 (by decide +kernel)).trans c182
            have c244 : I233 a1 1 = v185 := (g236.cell ta1 (by decide +kernel)).trans c186
            have c245 : I233 a1 2 = v189 := (g236.cell ta1 (by decide +kernel)).trans c190
            have c246 : I233 a1 3 = v193 := (g236.cell ta1 (by decide +kernel)).trans c194
            have c247 : I233 a1 4 = v197 := (g236.cell ta1 (by decide +kernel)).trans c198
            have c248 : I233 a1 5 = v201 := (g236.cell ta1 (by decide +kernel)).trans c202
            have c249 : I233 a1 6 = v205 := (g236.cell ta1 (by decide +kernel)).trans c206
            have c250 : I233 a1 9 = v209 := (g236.cell ta1 (by decide +kernel)).trans c210
            have c251 : I233 a0 13 = v213 := (g236.cell ta0 (by decide +kernel)).trans c214
            have hO252 : FrO 14 a1 T I0 I233 := hO156.st g236 (by decide +kernel)
            have hL253 := hL180.tr gl237 (by decide +kernel)
            have hM254 : NmM I233 R0 L235 a1 (lnQ gB gQ72 gs70) := NmM.kpL hM241 gl237 hS242.1 ta1 (by decide +kernel)
            rcases dj240 with ⟨p255, p256, p257, p258, p259, p260, p261, p262, p263, p264, -⟩ | ⟨p265, p266, p267, p268, p269, p270, p271, p272, p273, p274, -⟩
            · skip
              rw [c251] at p257
              rw [c214] at p257
              obtain ⟨v275, c276⟩ : ∃ v, I233 a0 9 = v := ⟨_, rfl⟩
              have b277 := iv15_9 hS242.1 ta0 c276
              rw [c276] at p258
              rw [c276] at p259
              obtain ⟨v278, c279⟩ : ∃ v, I233 a0 10 = v := ⟨_, rfl⟩
              have b280 := iv15_10 hS242.1 ta0 c279
              rw [c279] at p260
              obtain ⟨v281, c282⟩ : ∃ v, I233 a0 11 = v := ⟨_, rfl⟩
              rw [c282] at p261
              obtain ⟨y283, c284⟩ : ∃ v, L235 a0 15 = v := ⟨_, rfl⟩
              rw [c284] at p262
              obtain ⟨v285, c286⟩ : ∃ v, I233 a0 12 = v := ⟨_, rfl⟩
              rw [c286] at p263
              obtain ⟨v287, c288⟩ : ∃ v, I233 a0 8 = v := ⟨_, rfl⟩
              have b289 := iv15_8 hS242.1 ta0 c288
              rw [c288] at p264
              refine tr_istore_n dX12_readAll_16 (by decide) (by decide) ?_
              refine tr_goto 2 dX12_readAll_17 (by decide) ?_
              have lg290 := ls_go (B := gB) (Q := gQ72) (s := gs70) (by exact om_29f55913 p157)
              exact ih131 _ v238 I233 L235 ((tkN gB (lnS gB gQ72 gs70))) (gk145) ((lnQ gB gQ72 gs70)) v213 v275 v278 v281 y283 v285 v287 v181 v185 v189 v193 v197 v201 v205 v209 hl66 rfl hS242 hL253 hM254 hO252 c251 c276 c279 c282 c284 c286 c288 c243 c244 c245 c246 c247 c248 c249 c250 (by rw [← g107]; simp only [lsF, ↓reduceIte]; exact om_8cc6c95b p157 h232 p256) (by rw [← g108]; simp only [lsP, ↓reduceIte]; exact om_0bf81be8 p157 h232 p256) (by rw [← g109]; simp only [lsC, ↓reduceIte]; exact om_02d25939 p157 h232 p256) (by rw [← g110]; simp only [lsA0, ↓reduceIte]; exact om_2180ce66 p157 h232 p256) (by rw [← g111]; simp only [lsA5, ↓reduceIte]; exact om_2180ce66 p157 h232 p256) (by exact om_ee8a1e2d p255) (by exact om_bf9e05ca g117 g113 p260 lg290) (by exact om_9fa72578 g114 p166) (by exact om_acd7a85a p258) (by exact om_fc4b6669 p259) (by exact om_acd7a85a p260) (by exact om_acd7a85a p261) (by assumption) (by assumption) (by assumption) (by exact om_acd7a85a p184) (by exact om_acd7a85a p188) (by exact om_acd7a85a p192) (by exact om_acd7a85a p196) (by exact om_acd7a85a p200) (by exact om_acd7a85a p204) (by exact om_acd7a85a p208) (by exact om_acd7a85a p212) lq230 (by exact om_2eb640a8 g112 g117 hm131 b134.2 b134.1 h146 p260 b280.2 b280.1 lg290)
            · skip
              rw [c251] at p267
              rw [c214] at p267
              obtain ⟨v291, c292⟩ : ∃ v, I233 a0 9 = v := ⟨_, rfl⟩
              have b293 := iv15_9 hS242.1 ta0 c292
              rw [c292] at p268
              rw [c292] at p269
              obtain ⟨v294, c295⟩ : ∃ v, I233 a0 10 = v := ⟨_, rfl⟩
              have b296 := iv15_10 hS242.1 ta0 c295
              rw [c295] at p270
              obtain ⟨v297, c298⟩ : ∃ v, I233 a0 11 = v := ⟨_, rfl⟩
              rw [c298] at p271
              obtain ⟨y299, c300⟩ : ∃ v, L235 a0 15 = v := ⟨_, rfl⟩
              rw [c300] at p272
              obtain ⟨v301, c302⟩ : ∃ v, I233 a0 12 = v := ⟨_, rfl⟩
              rw [c302] at p273
              obtain ⟨v303, c304⟩ : ∃ v, I233 a0 8 = v := ⟨_, rfl⟩
              have b305 := iv15_8 hS242.1 ta0 c304
              rw [c304] at p274
              refine tr_istore_n dX12_readAll_16 (by decide) (by decide) ?_
              refine tr_goto 2 dX12_readAll_17 (by decide) ?_
              refine tr_iload_n dX12_readAll_2 rfl ?_
              refine q_if_eq 20 dX12_readAll_3 (by decide) (fun h306 => ?_) (fun h306 => ?_)
              · skip
                have ht307 := tkM_of gB (lnS gB gQ72 gs70)
                refine tr_aload_n dX12_readAll_20 hl66 ?_
                refine q_getI dX12_readAll_21 fl12_99 (kR15 hS242.1 ta0) c292 ?_
                refine q_iconst dX12_readAll_24 (by decide) ?_
                intro v308 h309
                refine q_icmp_eq 33 dX12_readAll_25 (by decide) (fun h310 => ?_) (fun h310 => ?_)
                · skip
                  refine tr_aload_n dX12_readAll_33 hl66 ?_
                  refine tr_getR dX12_readAll_34 fl12_188 (kR15 hS242.1 ta0) d2 ?_
                  refine q_getI dX12_readAll_37 fl12_192 (kR14 hS242.1 ta1) c243 ?_
                  refine q_if_eq 53 dX12_readAll_40 (by decide) (fun h311 => ?_) (fun h311 => ?_)
                  · skip
                    exfalso; exact om_78669f89 b183.2 b183.1 p184 lq230b h311
                  · skip
                    refine tr_aload_n dX12_readAll_43 hl66 ?_
                    refine tr_getR dX12_readAll_44 fl12_188 (kR15 hS242.1 ta0) d2 ?_
                    refine q_getI dX12_readAll_47 fl12_224 (kR14 hS242.1 ta1) c246 ?_
                    refine q_if_ne 59 dX12_readAll_50 (by decide) (fun h312 => ?_) (fun h312 => ?_)
                    · skip
                      obtain ⟨v313, c314⟩ : ∃ v, I233 a0 14 = v := ⟨_, rfl⟩
                      exact tr_vret hZ dX12_readAll_59 rfl (by decide) (by decide) ⟨rfl, rfl, rfl, rfl, rfl, hS242, (fun dr hd => (Option.some.inj (d2.symm.trans hd)) ▸ hO252), (Or.inl ⟨(by rw [← g107]; simp only [lsF, ↓reduceIte]; exact om_91798923 p157 b183.2 b183.1 p184 b195.2 b195.1 p196 lq230b p268 ht307 h309 h310 h311 h312), (by (try rw [c251]); (try rw [c62]); first | done | with_reducible assumption | exact om_9fa72578 g114 p166), (fun q0 z0 => by obtain rfl := Option.some.inj ((d2).symm.trans z0); (try rw [c246]); rw [← g109]; simp only [lsC, ↓reduceIte]; exact om_b7c3e2a4 p157 b183.2 b183.1 p184 b195.2 b195.1 p196 lq230b p268 ht307 h309 h310 h311 h312), (by (try rw [c292]); first | done | with_reducible assumption | omega), (fun q0 z0 => by obtain rfl := Option.some.inj ((d2).symm.trans z0); (try rw [c243]); first | done | with_reducible assumption | exact om_9e2714d8 b183.2 b183.1 p184 lq230b), (fun q0 z0 => by obtain rfl := Option.some.inj ((d2).symm.trans z0); (try rw [c243]); rw [← g110]; simp only [lsA0, ↓reduceIte]; exact om_21e5ec46 p157 b183.2 b183.1 p184 b195.2 b195.1 p196 lq230b p268 ht307 h309 h310 h311 h312), (fun q0 z0 => by obtain rfl := Option.some.inj ((d2).symm.trans z0); (try rw [c248]); rw [← g111]; simp only [lsA5, ↓reduceIte]; exact om_93d0874c p157 b183.2 b183.1 p184 b195.2 b195.1 p196 b203.2 b203.1 p204 lq230b p268 ht307 h309 h310 h311 h312), hL253, trivial⟩), trivial⟩
                    · skip
                      refine tr_aload_n dX12_readAll_53 hl66 ?_
                      refine q_bipush dX12_readAll_54 (by decide +kernel) ?_
                      intro v315 h316
                      refine q_callVv hE (M' := mX12_flaw) (as := [_]) dX12_readAll_56 lk12_145 inX12_flaw seX12_flaw myX12_flaw (by decide) ⟨by decide, by decide⟩ rfl (kR15 hS242.1 ta0) (Nat.le_of_ble_eq_true rfl) rfl rfl (by decide) (by decide) (fk_X12_flaw hS242.1  ta0 (by exact om_54a92a42 h316) (by (try rw [c292]); first | done | with_reducible assumption | exact om_6d67e03c h309 h310)) ?_
                      rintro cn' K' N' I317 R318 L319 ⟨rfl, rfl, rfl, rfl, rfl, g320, p323, p324, p325, -⟩
                      have hM326 : NmM I317 R0 L235 a1 (lnQ gB gQ72 gs70) := NmM.kpS hM254 g320 hS242.1 ta1 (by decide +kernel) (by decide +kernel)
                      have hS327 := hS242.tr g320 (by decide +kernel) (by decide +kernel)
                      have c328 : I317 a1 0 = v181 := (g320.cell ta1 (by decide +kernel)).trans c243
                      have c329 : I317 a1 1 = v185 := (g320.cell ta1 (by decide +kernel)).trans c244
                      have c330 : I317 a1 2 = v189 := (g320.cell ta1 (by decide +kernel)).trans c245
                      have c331 : I317 a1 3 = v193 := (g320.cell ta1 (by decide +kernel)).trans c246
                      have c332 : I317 a1 4 = v197 := (g320.cell ta1 (by decide +kernel)).trans c247
                      have c333 : I317 a1 5 = v201 := (g320.cell ta1 (by decide +kernel)).trans c248
                      have c334 : I317 a1 6 = v205 := (g320.cell ta1 (by decide +kernel)).trans c249
                      have c335 : I317 a1 9 = v209 := (g320.cell ta1 (by decide +kernel)).trans c250
                      have c336 : I317 a0 10 = v294 := (g320.cell ta0 (by decide +kernel)).trans c295
                      have c337 : I317 a0 11 = v297 := (g320.cell ta0 (by decide +kernel)).trans c298
                      have c338 : I317 a0 12 = v301 := (g320.cell ta0 (by decide +kernel)).trans c302
                      have c339 : I317 a0 8 = v303 := (g320.cell ta0 (by decide +kernel)).trans c304
                      have hO340 : FrO 14 a1 T I0 I317 := hO252.st g320 (by decide +kernel)
                      obtain ⟨v341, c342⟩ : ∃ v, I317 a0 9 = v := ⟨_, rfl⟩
                      have b343 := iv15_9 hS327.1 ta0 c342
                      rw [c342] at p323
                      obtain ⟨v344, c345⟩ : ∃ v, I317 a0 13 = v := ⟨_, rfl⟩
                      rw [c345] at p324
                      obtain ⟨v346, c347⟩ : ∃ v, I317 a0 14 = v := ⟨_, rfl⟩
                      rw [c347] at p325
                      rw [c295] at p325
                      exact tr_vret hZ dX12_readAll_59 rfl (by decide) (by decide) ⟨rfl, rfl, rfl, rfl, rfl, hS327, (fun dr hd => (Option.some.inj (d2.symm.trans hd)) ▸ hO340), (Or.inr (⟨(by rw [← g107]; simp only [lsF, ↓reduceIte]; exact om_5cce6680 b183.2 b183.1 p184 p196 lq230b p268 ht307 h309 h310 h311 h312), (by (try rw [c342]); first | done | with_reducible assumption | omega), (by (try rw [c345]); rw [← g107]; simp only [lsF, ↓reduceIte]; exact om_3760f6c7 p157 b183.2 b183.1 p184 p196 lq230b p268 ht307 h309 h310 h311 h312 h316 p324), (by (try rw [c347]); rw [← g108]; simp only [lsP, ↓reduceIte]; exact om_9b1f6c09 p157 b183.2 b183.1 p184 p196 lq230b p268 p270 ht307 h309 h310 h311 h312 p325), trivial⟩)), trivial⟩
                · skip
                  refine tr_aload_n dX12_readAll_28 hl66 ?_
                  refine q_iconst dX12_readAll_29 (by decide) ?_
                  intro v348 h349
                  refine q_callVv hE (M' := mX12_flaw) (as := [_]) dX12_readAll_30 lk12_145 inX12_flaw seX12_flaw myX12_flaw (by decide) ⟨by decide, by decide⟩ rfl (kR15 hS242.1 ta0) (Nat.le_of_ble_eq_true rfl) rfl rfl (by decide) (by decide) (fk_X12_flaw hS242.1  ta0 (by exact om_95922198 h349) (by (try rw [c292]); first | done | with_reducible assumption | exact om_ada015f3 p168 p167 b217.1 p268)) ?_
                  rintro cn' K' N' I350 R351 L352 ⟨rfl, rfl, rfl, rfl, rfl, g353, p356, p357, p358, -⟩
                  have hM359 : NmM I350 R0 L235 a1 (lnQ gB gQ72 gs70) := NmM.kpS hM254 g353 hS242.1 ta1 (by decide +kernel) (by decide +kernel)
                  have hS360 := hS242.tr g353 (by decide +kernel) (by decide +kernel)
                  have c361 : I350 a1 0 = v181 := (g353.cell ta1 (by decide +kernel)).trans c243
                  have c362 : I350 a1 1 = v185 := (g353.cell ta1 (by decide +kernel)).trans c244
                  have c363 : I350 a1 2 = v189 := (g353.cell ta1 (by decide +kernel)).trans c245
                  have c364 : I350 a1 3 = v193 := (g353.cell ta1 (by decide +kernel)).trans c246
                  have c365 : I350 a1 4 = v197 := (g353.cell ta1 (by decide +kernel)).trans c247
                  have c366 : I350 a1 5 = v201 := (g353.cell ta1 (by decide +kernel)).trans c248
                  have c367 : I350 a1 6 = v205 := (g353.cell ta1 (by decide +kernel)).trans c249
                  have c368 : I350 a1 9 = v209 := (g353.cell ta1 (by decide +kernel)).trans c250
                  have c369 : I350 a0 10 = v294 := (g353.cell ta0 (by decide +kernel)).trans c295
                  have c370 : I350 a0 11 = v297 := (g353.cell ta0 (by decide +kernel)).trans c298
                  have c371 : I350 a0 12 = v301 := (g353.cell ta0 (by decide +kernel)).trans c302
                  have c372 : I350 a0 8 = v303 := (g353.cell ta0 (by decide +kernel)).trans c304
                  have hO373 : FrO 14 a1 T I0 I350 := hO252.st g353 (by decide +kernel)
                  obtain ⟨v374, c375⟩ : ∃ v, I350 a0 9 = v := ⟨_, rfl⟩
                  have b376 := iv15_9 hS360.1 ta0 c375
                  rw [c375] at p356
                  obtain ⟨v377, c378⟩ : ∃ v, I350 a0 13 = v := ⟨_, rfl⟩
                  rw [c378] at p357
                  obtain ⟨v379, c380⟩ : ∃ v, I350 a0 14 = v := ⟨_, rfl⟩
                  rw [c380] at p358
                  rw [c295] at p358
                  refine tr_aload_n dX12_readAll_33 hl66 ?_
                  refine tr_getR dX12_readAll_34 fl12_188 (kR15 hS360.1 ta0) d2 ?_
                  refine q_getI dX12_readAll_37 fl12_192 (kR14 hS360.1 ta1) c361 ?_
                  refine q_if_eq 53 dX12_readAll_40 (by decide) (fun h381 => ?_) (fun h381 => ?_)
                  · skip
                    exfalso; exact om_78669f89 b183.2 b183.1 p184 lq230b h381
                  · skip
                    refine tr_aload_n dX12_readAll_43 hl66 ?_
                    refine tr_getR dX12_readAll_44 fl12_188 (kR15 hS360.1 ta0) d2 ?_
                    refine q_getI dX12_readAll_47 fl12_224 (kR14 hS360.1 ta1) c364 ?_
                    refine q_if_ne 59 dX12_readAll_50 (by decide) (fun h382 => ?_) (fun h382 => ?_)
                    · skip
                      exact tr_vret hZ dX12_readAll_59 rfl (by decide) (by decide) ⟨rfl, rfl, rfl, rfl, rfl, hS360, (fun dr hd => (Option.some.inj (d2.symm.trans hd)) ▸ hO373), (Or.inr (⟨(by rw [← g107]; simp only [lsF, ↓reduceIte]; exact om_3ad483f4 b183.2 b183.1 p184 b195.2 b195.1 p196 lq230b h232 p266 p268 ht307 h309 h310 h381 h382), (by (try rw [c375]); first | done | with_reducible assumption | omega), (by (try rw [c378]); rw [← g107]; simp only [lsF, ↓reduceIte]; exact om_ab4e3c3f p157 b183.2 b183.1 p184 b195.2 b195.1 p196 lq230b h232 p266 p268 ht307 h309 h310 h349 p357 h381 h382), (by (try rw [c380]); rw [← g108]; simp only [lsP, ↓reduceIte]; exact om_8d4b8d50 p157 b183.2 b183.1 p184 b195.2 b195.1 p196 p169 b220.2 b220.1 lq230b h232 p266 p268 p270 ht307 h309 h310 p358 h381 h382), trivial⟩)), trivial⟩
                    · skip
                      refine tr_aload_n dX12_readAll_53 hl66 ?_
                      refine q_bipush dX12_readAll_54 (by decide +kernel) ?_
                      intro v383 h384
                      refine q_callVv hE (M' := mX12_flaw) (as := [_]) dX12_readAll_56 lk12_145 inX12_flaw seX12_flaw myX12_flaw (by decide) ⟨by decide, by decide⟩ rfl (kR15 hS360.1 ta0) (Nat.le_of_ble_eq_true rfl) rfl rfl (by decide) (by decide) (k_X12_flaw hS360.1 ta0 (by exact om_54a92a42 h384)) ?_
                      rintro cn' K' N' I385 R386 L387 ⟨rfl, rfl, rfl, rfl, rfl, g388, p390, p391, w392, -⟩
                      have hS393 := hS360.tr g388 (by decide +kernel) (by decide +kernel)
                      have c394 : I385 a1 0 = v181 := (g388.cell ta1 (by decide +kernel)).trans c361
                      have c395 : I385 a1 1 = v185 := (g388.cell ta1 (by decide +kernel)).trans c362
                      have c396 : I385 a1 2 = v189 := (g388.cell ta1 (by decide +kernel)).trans c363
                      have c397 : I385 a1 3 = v193 := (g388.cell ta1 (by decide +kernel)).trans c364
                      have c398 : I385 a1 4 = v197 := (g388.cell ta1 (by decide +kernel)).trans c365
                      have c399 : I385 a1 5 = v201 := (g388.cell ta1 (by decide +kernel)).trans c366
                      have c400 : I385 a1 6 = v205 := (g388.cell ta1 (by decide +kernel)).trans c367
                      have c401 : I385 a1 9 = v209 := (g388.cell ta1 (by decide +kernel)).trans c368
                      have c402 : I385 a0 10 = v294 := (g388.cell ta0 (by decide +kernel)).trans c369
                      have c403 : I385 a0 11 = v297 := (g388.cell ta0 (by decide +kernel)).trans c370
                      have c404 : I385 a0 12 = v301 := (g388.cell ta0 (by decide +kernel)).trans c371
                      have c405 : I385 a0 8 = v303 := (g388.cell ta0 (by decide +kernel)).trans c372
                      obtain ⟨v406, c407⟩ : ∃ v, I385 a0 9 = v := ⟨_, rfl⟩
                      have b408 := iv15_9 hS393.1 ta0 c407
                      rw [c407] at p390
                      rw [c405] at p391
                      rw [c372] at p391
                      have hO409 : FrO 14 a1 T I0 I385 := hO373.st g388 (by decide +kernel)
                      have ov410 := w392.over (by rw [c375]; exact om_394b70a2 p356)
                      obtain ⟨v411, c412⟩ : ∃ v, I385 a0 9 = v := ⟨_, rfl⟩
                      have b413 := iv15_9 hS393.1 ta0 c412
                      obtain ⟨v414, c415⟩ : ∃ v, I385 a0 13 = v := ⟨_, rfl⟩
                      obtain ⟨v416, c417⟩ : ∃ v, I385 a0 14 = v := ⟨_, rfl⟩
                      (try rw [c412] at ov410)
                      (try rw [c415] at ov410)
                      (try rw [c417] at ov410)
                      (try rw [c375] at ov410)
                      (try rw [c378] at ov410)
                      (try rw [c380] at ov410)
                      exact tr_vret hZ dX12_readAll_59 rfl (by decide) (by decide) ⟨rfl, rfl, rfl, rfl, rfl, hS393, (fun dr hd => (Option.some.inj (d2.symm.trans hd)) ▸ hO409), (Or.inr (⟨(by rw [← g107]; simp only [lsF, ↓reduceIte]; exact om_3fd7a786 b183.2 b183.1 p184 p196 lq230b h232 p266 p268 ht307 h309 h310 h381 h382), (by (try rw [c412]); first | done | with_reducible assumption | exact om_394b70a2 ov410.1), (by (try rw [c415]); rw [← g107]; simp only [lsF, ↓reduceIte]; exact om_4645e64f p157 b183.2 b183.1 p184 p196 lq230b h232 p266 p268 ht307 h309 h310 h349 p357 h381 h382 ov410.2.1), (by (try rw [c417]); rw [← g108]; simp only [lsP, ↓reduceIte]; exact om_894e213f p157 b183.2 b183.1 p184 p196 lq230b h232 p266 p268 p270 ht307 h309 h310 p358 h381 h382 ov410.2.2), trivial⟩)), trivial⟩
              · skip
                exfalso; exact om_3a97d4a5 p265 h306
          · skip
            obtain ⟨v418, c419⟩ : ∃ v, I147 a0 9 = v := ⟨_, rfl⟩
            have b420 := iv15_9 hS155.1 ta0 c419
            rw [c419] at p177
            obtain ⟨v421, c422⟩ : ∃ v, I147 a0 13 = v := ⟨_, rfl⟩
            rw [c422] at p178
            obtain ⟨v423, c424⟩ : ∃ v, I147 a0 14 = v := ⟨_, rfl⟩
            rw [c424] at p179
            refine tr_aload_n dX12_readAll_10 hl66 ?_
            refine q_bipush dX12_readAll_11 (by decide +kernel) ?_
            intro v425 h426
            obtain ⟨v427, c428⟩ : ∃ v, I147 a0 8 = v := ⟨_, rfl⟩
            have b429 := iv15_8 hS155.1 ta0 c428
            refine q_callVi hE (M' := mX12_eatsSign) (as := [_]) dX12_readAll_13 lk12_221 inX12_eatsSign seX12_eatsSign myX12_eatsSign (by decide) ⟨by decide, by decide⟩ rfl (kR15 hS155.1 ta0) (Nat.le_of_ble_eq_true rfl) rfl rfl (by decide) (by decide) (k_X12_eatsSign hS155.1 ta0) ?_
            rintro v434 cn' K' N' I430 R431 L432 ⟨rfl, rfl, rfl, rfl, g433, h435, p436, p437, w438, -⟩
            have hS439 := hS155.tr g433 (by decide +kernel) (by decide +kernel)
            have c440 : I430 a0 13 = v421 := (g433.cell ta0 (by decide +kernel)).trans c422
            have c441 : I430 a0 14 = v423 := (g433.cell ta0 (by decide +kernel)).trans c424
            rw [c419] at p436
            obtain ⟨v442, c443⟩ : ∃ v, I430 a0 8 = v := ⟨_, rfl⟩
            have b444 := iv15_8 hS439.1 ta0 c443
            rw [c443] at p437
            rw [c428] at p437
            have hO445 : FrO 14 a1 T I0 I430 := hO156.st g433 (by decide +kernel)
            have ov446 := w438.over (by rw [c419]; exact om_394b70a2 p177)
            obtain ⟨v447, c448⟩ : ∃ v, I430 a0 9 = v := ⟨_, rfl⟩
            have b449 := iv15_9 hS439.1 ta0 c448
            obtain ⟨v450, c451⟩ : ∃ v, I430 a0 13 = v := ⟨_, rfl⟩
            obtain ⟨v452, c453⟩ : ∃ v, I430 a0 14 = v := ⟨_, rfl⟩
            (try rw [c448] at ov446)
            (try rw [c451] at ov446)
            (try rw [c453] at ov446)
            (try rw [c419] at ov446)
            (try rw [c422] at ov446)
            (try rw [c424] at ov446)
            refine tr_istore_n dX12_readAll_16 (by decide) (by decide) ?_
            refine tr_goto 2 dX12_readAll_17 (by decide) ?_
            refine tr_iload_n dX12_readAll_2 rfl ?_
            refine q_if_eq 20 dX12_readAll_3 (by decide) (fun h454 => ?_) (fun h454 => ?_)
            · skip
              refine tr_aload_n dX12_readAll_20 hl66 ?_
              refine q_getI dX12_readAll_21 fl12_99 (kR15 hS439.1 ta0) c448 ?_
              refine q_iconst dX12_readAll_24 (by decide) ?_
              intro v455 h456
              refine q_icmp_eq 33 dX12_readAll_25 (by decide) (fun h457 => ?_) (fun h457 => ?_)
              · skip
                exfalso; exact om_9c37436c ov446.1 h456 h457
              · skip
                refine tr_aload_n dX12_readAll_28 hl66 ?_
                refine q_iconst dX12_readAll_29 (by decide) ?_
                intro v458 h459
                refine q_callVv hE (M' := mX12_flaw) (as := [_]) dX12_readAll_30 lk12_145 inX12_flaw seX12_flaw myX12_flaw (by decide) ⟨by decide, by decide⟩ rfl (kR15 hS439.1 ta0) (Nat.le_of_ble_eq_true rfl) rfl rfl (by decide) (by decide) (k_X12_flaw hS439.1 ta0 (by exact om_95922198 h459)) ?_
                rintro cn' K' N' I460 R461 L462 ⟨rfl, rfl, rfl, rfl, rfl, g463, p465, p466, w467, -⟩
                have hS468 := hS439.tr g463 (by decide +kernel) (by decide +kernel)
                have c469 : I460 a0 8 = v442 := (g463.cell ta0 (by decide +kernel)).trans c443
                obtain ⟨v470, c471⟩ : ∃ v, I460 a0 9 = v := ⟨_, rfl⟩
                have b472 := iv15_9 hS468.1 ta0 c471
                rw [c471] at p465
                rw [c469] at p466
                rw [c443] at p466
                have hO473 : FrO 14 a1 T I0 I460 := hO445.st g463 (by decide +kernel)
                have ov474 := w467.over (by rw [c448]; exact om_394b70a2 ov446.1)
                obtain ⟨v475, c476⟩ : ∃ v, I460 a0 9 = v := ⟨_, rfl⟩
                have b477 := iv15_9 hS468.1 ta0 c476
                obtain ⟨v478, c479⟩ : ∃ v, I460 a0 13 = v := ⟨_, rfl⟩
                obtain ⟨v480, c481⟩ : ∃ v, I460 a0 14 = v := ⟨_, rfl⟩
                (try rw [c476] at ov474)
                (try rw [c479] at ov474)
                (try rw [c481] at ov474)
                (try rw [c448] at ov474)
                (try rw [c451] at ov474)
                (try rw [c453] at ov474)
                refine tr_aload_n dX12_readAll_33 hl66 ?_
                refine tr_getR dX12_readAll_34 fl12_188 (kR15 hS468.1 ta0) d2 ?_
                obtain ⟨v482, c483⟩ : ∃ v, I460 a1 0 = v := ⟨_, rfl⟩
                have b484 := iv14_0 hS468.1 ta1 c483
                refine q_getI dX12_readAll_37 fl12_192 (kR14 hS468.1 ta1) c483 ?_
                refine q_if_eq 53 dX12_readAll_40 (by decide) (fun h485 => ?_) (fun h485 => ?_)
                · skip
                  refine tr_aload_n dX12_readAll_53 hl66 ?_
                  refine q_bipush dX12_readAll_54 (by decide +kernel) ?_
                  intro v486 h487
                  refine q_callVv hE (M' := mX12_flaw) (as := [_]) dX12_readAll_56 lk12_145 inX12_flaw seX12_flaw myX12_flaw (by decide) ⟨by decide, by decide⟩ rfl (kR15 hS468.1 ta0) (Nat.le_of_ble_eq_true rfl) rfl rfl (by decide) (by decide) (k_X12_flaw hS468.1 ta0 (by exact om_54a92a42 h487)) ?_
                  rintro cn' K' N' I488 R489 L490 ⟨rfl, rfl, rfl, rfl, rfl, g491, p493, p494, w495, -⟩
                  have hS496 := hS468.tr g491 (by decide +kernel) (by decide +kernel)
                  have c497 : I488 a0 8 = v442 := (g491.cell ta0 (by decide +kernel)).trans c469
                  have c498 : I488 a1 0 = v482 := (g491.cell ta1 (by decide +kernel)).trans c483
                  obtain ⟨v499, c500⟩ : ∃ v, I488 a0 9 = v := ⟨_, rfl⟩
                  have b501 := iv15_9 hS496.1 ta0 c500
                  rw [c500] at p493
                  rw [c497] at p494
                  rw [c469] at p494
                  have hO502 : FrO 14 a1 T I0 I488 := hO473.st g491 (by decide +kernel)
                  have ov503 := w495.over (by rw [c476]; exact om_394b70a2 ov474.1)
                  obtain ⟨v504, c505⟩ : ∃ v, I488 a0 9 = v := ⟨_, rfl⟩
                  have b506 := iv15_9 hS496.1 ta0 c505
                  obtain ⟨v507, c508⟩ : ∃ v, I488 a0 13 = v := ⟨_, rfl⟩
                  obtain ⟨v509, c510⟩ : ∃ v, I488 a0 14 = v := ⟨_, rfl⟩
                  (try rw [c505] at ov503)
                  (try rw [c508] at ov503)
                  (try rw [c510] at ov503)
                  (try rw [c476] at ov503)
                  (try rw [c479] at ov503)
                  (try rw [c481] at ov503)
                  obtain ⟨v511, c512⟩ : ∃ v, I488 a1 3 = v := ⟨_, rfl⟩
                  have b513 := iv14_3 hS496.1 ta1 c512
                  obtain ⟨v514, c515⟩ : ∃ v, I488 a1 5 = v := ⟨_, rfl⟩
                  have b516 := iv14_5 hS496.1 ta1 c515
                  exact tr_vret hZ dX12_readAll_59 rfl (by decide) (by decide) ⟨rfl, rfl, rfl, rfl, rfl, hS496, (fun dr hd => (Option.some.inj (d2.symm.trans hd)) ▸ hO502), (Or.inr (⟨(by rw [← g107]; simp only [lsF, ↓reduceIte]; exact om_c099efaa p176), (by (try rw [c505]); first | done | with_reducible assumption | exact om_394b70a2 ov503.1), (by (try rw [c508]); rw [← g107]; simp only [lsF, ↓reduceIte]; exact om_92221d8c p176 p178 ov446.2.1 ov474.2.1 ov503.2.1), (by (try rw [c510]); rw [← g108]; simp only [lsP, ↓reduceIte]; exact om_a331a627 p176 p179 ov446.2.2 ov474.2.2 ov503.2.2), trivial⟩)), trivial⟩
                · skip
                  refine tr_aload_n dX12_readAll_43 hl66 ?_
                  refine tr_getR dX12_readAll_44 fl12_188 (kR15 hS468.1 ta0) d2 ?_
                  obtain ⟨v517, c518⟩ : ∃ v, I460 a1 3 = v := ⟨_, rfl⟩
                  have b519 := iv14_3 hS468.1 ta1 c518
                  refine q_getI dX12_readAll_47 fl12_224 (kR14 hS468.1 ta1) c518 ?_
                  refine q_if_ne 59 dX12_readAll_50 (by decide) (fun h520 => ?_) (fun h520 => ?_)
                  · skip
                    obtain ⟨v521, c522⟩ : ∃ v, I460 a1 5 = v := ⟨_, rfl⟩
                    have b523 := iv14_5 hS468.1 ta1 c522
                    exact tr_vret hZ dX12_readAll_59 rfl (by decide) (by decide) ⟨rfl, rfl, rfl, rfl, rfl, hS468, (fun dr hd => (Option.some.inj (d2.symm.trans hd)) ▸ hO473), (Or.inr (⟨(by rw [← g107]; simp only [lsF, ↓reduceIte]; exact om_c099efaa p176), (by (try rw [c476]); first | done | with_reducible assumption | exact om_394b70a2 ov474.1), (by (try rw [c479]); rw [← g107]; simp only [lsF, ↓reduceIte]; exact om_310f252e p176 p178 ov446.2.1 ov474.2.1), (by (try rw [c481]); rw [← g108]; simp only [lsP, ↓reduceIte]; exact om_7dc9dbd6 p176 p179 ov446.2.2 ov474.2.2), trivial⟩)), trivial⟩
                  · skip
                    refine tr_aload_n dX12_readAll_53 hl66 ?_
                    refine q_bipush dX12_readAll_54 (by decide +kernel) ?_
                    intro v524 h525
                    refine q_callVv hE (M' := mX12_flaw) (as := [_]) dX12_readAll_56 lk12_145 inX12_flaw seX12_flaw myX12_flaw (by decide) ⟨by decide, by decide⟩ rfl (kR15 hS468.1 ta0) (Nat.le_of_ble_eq_true rfl) rfl rfl (by decide) (by decide) (k_X12_flaw hS468.1 ta0 (by exact om_54a92a42 h525)) ?_
                    rintro cn' K' N' I526 R527 L528 ⟨rfl, rfl, rfl, rfl, rfl, g529, p531, p532, w533, -⟩
                    have hS534 := hS468.tr g529 (by decide +kernel) (by decide +kernel)
                    have c535 : I526 a0 8 = v442 := (g529.cell ta0 (by decide +kernel)).trans c469
                    have c536 : I526 a1 0 = v482 := (g529.cell ta1 (by decide +kernel)).trans c483
                    have c537 : I526 a1 3 = v517 := (g529.cell ta1 (by decide +kernel)).trans c518
                    obtain ⟨v538, c539⟩ : ∃ v, I526 a0 9 = v := ⟨_, rfl⟩
                    have b540 := iv15_9 hS534.1 ta0 c539
                    rw [c539] at p531
                    rw [c535] at p532
                    rw [c469] at p532
                    have hO541 : FrO 14 a1 T I0 I526 := hO473.st g529 (by decide +kernel)
                    have ov542 := w533.over (by rw [c476]; exact om_394b70a2 ov474.1)
                    obtain ⟨v543, c544⟩ : ∃ v, I526 a0 9 = v := ⟨_, rfl⟩
                    have b545 := iv15_9 hS534.1 ta0 c544
                    obtain ⟨v546, c547⟩ : ∃ v, I526 a0 13 = v := ⟨_, rfl⟩
                    obtain ⟨v548, c549⟩ : ∃ v, I526 a0 14 = v := ⟨_, rfl⟩
                    (try rw [c544] at ov542)
                    (try rw [c547] at ov542)
                    (try rw [c549] at ov542)
                    (try rw [c476] at ov542)
                    (try rw [c479] at ov542)
                    (try rw [c481] at ov542)
                    obtain ⟨v550, c551⟩ : ∃ v, I526 a1 5 = v := ⟨_, rfl⟩
                    have b552 := iv14_5 hS534.1 ta1 c551
                    exact tr_vret hZ dX12_readAll_59 rfl (by decide) (by decide) ⟨rfl, rfl, rfl, rfl, rfl, hS534, (fun dr hd => (Option.some.inj (d2.symm.trans hd)) ▸ hO541), (Or.inr (⟨(by rw [← g107]; simp only [lsF, ↓reduceIte]; exact om_c099efaa p176), (by (try rw [c544]); first | done | with_reducible assumption | exact om_394b70a2 ov542.1), (by (try rw [c547]); rw [← g107]; simp only [lsF, ↓reduceIte]; exact om_92221d8c p176 p178 ov446.2.1 ov474.2.1 ov542.2.1), (by (try rw [c549]); rw [← g108]; simp only [lsP, ↓reduceIte]; exact om_a331a627 p176 p179 ov446.2.2 ov474.2.2 ov542.2.2), trivial⟩)), trivial⟩
            · skip
              exfalso; exact om_1952d64c p177 h435.2 h435.1 p436 h454
  exact lp131 _ _ v63 I0 L0 (0) (901) (Q00) v61 v3 v8 v12 y15 v18 v21 v29 v33 v37 v41 v45 v49 v53 v57 rfl rfl hS0 hL0 hM0 hO0 c62 c4 c9 c13 c16 c19 c22 c30 c34 c38 c42 c46 c50 c54 c58 (by first | rfl | (congr 1; omega) | (congr 2 <;> omega)) (by first | rfl | (congr 1; omega) | (congr 2 <;> omega)) (by first | rfl | (congr 1; omega) | (congr 2 <;> omega)) (by first | rfl | (congr 1; omega) | (congr 2 <;> omega)) (by first | rfl | (congr 1; omega) | (congr 2 <;> omega)) (by exact om_ee8a1e2d h64) (by exact om_bd931e74 b10.2 b10.1) (by exact om_4ee7209a) (by exact om_acd7a85a p6) (by exact om_fc4b6669 p7) (by exact om_acd7a85a p11) (by exact om_acd7a85a p14) (by assumption) (by assumption) (by assumption) (by exact om_acd7a85a p32) (by exact om_acd7a85a p36) (by exact om_acd7a85a p40) (by exact om_acd7a85a p44) (by exact om_acd7a85a p48) (by exact om_acd7a85a p52) (by exact om_acd7a85a p56) (by exact om_acd7a85a p60) (Or.inl ⟨rfl, rfl⟩) (Nat.lt_succ_self _)
