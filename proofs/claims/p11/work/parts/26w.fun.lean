def wik_X12_readLine : List Nat := [896, 897, 898, 899, 900, 901, 902, 903, 904, 905, 968, 969, 970, 971, 972, 973, 974, 3455, 3519, 3583, 3647, 3711, 3775, 3839, 3903, 3967, 4031, 4095, 4159, 4223, 4287, 4351, 4415, 4479, 4543, 4607, 4671, 4799, 4863]
def wrk_X12_readLine : List Nat := []
def wlk_X12_readLine : List Nat := [975, 4735]
set_option maxHeartbeats 4000000 in
theorem fk_X12_readLine {l : Launch} {T : Nat → Nat} {cn : Nat} {K N : Nat → Nat} {I0 : cz_I} {R0 : cz_R} {L0 : cz_L} (hW0 : Wf T cn K N I0 R0 0) (gB : cz_B) (gs : Int) (gQ : Nat → Int) {a0 : Nat} (ta0 : T a0 = 15) (hT : ∀ t, R0 a0 5 = some t → Tx I0 t gB) (hN : ∀ b, R0 a0 4 = some b → NmM I0 R0 L0 b gQ) (pre0 : (I0 a0 9).toInt = (tkM gB gs)) (pre1 : (I0 a0 9).toInt ≤ 4) (pre2 : (I0 a0 10).toInt = (tkS gB gs)) (pre3 : (I0 a0 11).toInt = (tkG gB gs)) (pre4 : (AtW ((tkK gB gs)) ((L0 a0 15).toInt) ((tkW gB gs)))) (pre5 : (AtV ((tkK gB gs)) ((I0 a0 12).toInt) ((tkV gB gs)))) (pre6 : (AtN ((tkK gB gs)) ((I0 a0 8).toInt) ((tkN gB gs)))) (pre7 : (I0 a0 7).toInt = (gB.2)) (pre8 : ∀ b1, R0 a0 4 = some b1 → (I0 b1 0).toInt = (gQ 0)) (pre9 : ∀ b1, R0 a0 4 = some b1 → (I0 b1 1).toInt = (gQ 1)) (pre10 : ∀ b1, R0 a0 4 = some b1 → (I0 b1 2).toInt = (gQ 2)) (pre11 : ∀ b1, R0 a0 4 = some b1 → (I0 b1 3).toInt = (gQ 3)) (pre12 : ∀ b1, R0 a0 4 = some b1 → (I0 b1 4).toInt = (gQ 4)) (pre13 : ∀ b1, R0 a0 4 = some b1 → (I0 b1 5).toInt = (gQ 5)) (pre14 : ∀ b1, R0 a0 4 = some b1 → (I0 b1 6).toInt = (gQ 6)) (pre15 : ∀ b1, R0 a0 4 = some b1 → (I0 b1 9).toInt = (gQ 8)) (pre16 : (Q7M ((gQ 0)) ((gQ 7)))) (nn4 : ∃ b, R0 a0 4 = some b) : ConE l mX12_readLine [.ref a0] cn K N I0 R0 L0 (ca_v (fun cn' K' N' I' R' L' => cn = cn' ∧ K = K' ∧ N = N' ∧ R0 = R' ∧ St T cn K N 0 wik_X12_readLine wrk_X12_readLine I0 R0 I' R0 ∧ (∀ b, R0 a0 4 = some b → FrM R0 b T I0 I') ∧ (∀ dr, R0 a0 4 = some dr → FrO 14 dr T I0 I') ∧ ((((lnF gB gQ gs) = 0) ∧ (∀ b1, R0 a0 4 = some b1 → (I' b1 0).toInt = (lnQ gB gQ gs 0)) ∧ (∀ b1, R0 a0 4 = some b1 → (I' b1 1).toInt = (lnQ gB gQ gs 1)) ∧ (∀ b1, R0 a0 4 = some b1 → (I' b1 2).toInt = (lnQ gB gQ gs 2)) ∧ (∀ b1, R0 a0 4 = some b1 → (I' b1 3).toInt = (lnQ gB gQ gs 3)) ∧ (∀ b1, R0 a0 4 = some b1 → (I' b1 4).toInt = (lnQ gB gQ gs 4)) ∧ (∀ b1, R0 a0 4 = some b1 → (I' b1 5).toInt = (lnQ gB gQ gs 5)) ∧ (∀ b1, R0 a0 4 = some b1 → (I' b1 6).toInt = (lnQ gB gQ gs 6)) ∧ (∀ b1, R0 a0 4 = some b1 → (I' b1 9).toInt = (lnQ gB gQ gs 8)) ∧ ((I' a0 13).toInt = (I0 a0 13).toInt) ∧ ((I' a0 9).toInt = (tkM gB (lnS gB gQ gs))) ∧ ((I' a0 9).toInt ≤ 4) ∧ ((I' a0 10).toInt = (tkS gB (lnS gB gQ gs))) ∧ ((I' a0 11).toInt = (tkG gB (lnS gB gQ gs))) ∧ ((AtW ((tkK gB (lnS gB gQ gs))) ((L' a0 15).toInt) ((tkW gB (lnS gB gQ gs))))) ∧ ((AtV ((tkK gB (lnS gB gQ gs))) ((I' a0 12).toInt) ((tkV gB (lnS gB gQ gs))))) ∧ ((AtN ((tkK gB (lnS gB gQ gs))) ((I' a0 8).toInt) ((tkN gB (lnS gB gQ gs))))) ∧ LgS T wlk_X12_readLine L0 L' ∧ (∀ b, R0 a0 4 = some b → NmM I' R0 L' b (lnQ gB gQ gs)) ∧ (∀ E b, R0 a0 4 = some b → AlM I0 R0 b gQ E → AlM I' R0 b (lnQ gB gQ gs) (lnE gB gQ gs E)) ∧ True) ∨ (((lnF gB gQ gs) ≠ 0) ∧ ((I' a0 9).toInt = 5) ∧ ((I' a0 13).toInt = (lnF gB gQ gs)) ∧ ((I' a0 14).toInt = (lnP gB gQ gs)) ∧ True)) ∧ True)) := by
  refine ConE.of (by decide +kernel) rfl (Nat.le_of_ble_eq_true rfl) rfl (fun X hX hZ hE => ?_)
  subst hX
  have hS0 : St T cn K N 0 wik_X12_readLine wrk_X12_readLine I0 R0 I0 R0 := St.rf0 hW0
  have hL0 : LgS T wlk_X12_readLine L0 L0 := LgS.rf0
  obtain ⟨a1, d2⟩ := nn4
  have ta1 : T a1 = 14 := hW0.rsN ta0 rfl d2
  obtain ⟨v3, c4⟩ : ∃ v, I0 a0 9 = v := ⟨_, rfl⟩
  have b5 := iv15_9 hS0.1 ta0 c4
  have p6 := pre0
  rw [c4] at p6
  have p7 := pre1
  rw [c4] at p7
  obtain ⟨v8, c9⟩ : ∃ v, I0 a0 10 = v := ⟨_, rfl⟩
  have b10 := iv15_10 hS0.1 ta0 c9
  have p11 := pre2
  rw [c9] at p11
  obtain ⟨v12, c13⟩ : ∃ v, I0 a0 11 = v := ⟨_, rfl⟩
  have p14 := pre3
  rw [c13] at p14
  obtain ⟨y15, c16⟩ : ∃ v, L0 a0 15 = v := ⟨_, rfl⟩
  have p17 := pre4
  rw [c16] at p17
  obtain ⟨v18, c19⟩ : ∃ v, I0 a0 12 = v := ⟨_, rfl⟩
  have p20 := pre5
  rw [c19] at p20
  obtain ⟨v21, c22⟩ : ∃ v, I0 a0 8 = v := ⟨_, rfl⟩
  have b23 := iv15_8 hS0.1 ta0 c22
  have p24 := pre6
  rw [c22] at p24
  obtain ⟨v25, c26⟩ : ∃ v, I0 a0 7 = v := ⟨_, rfl⟩
  have b27 := iv15_7 hW0 ta0 c26
  have p28 := pre7
  rw [c26] at p28
  obtain ⟨v29, c30⟩ : ∃ v, I0 a1 0 = v := ⟨_, rfl⟩
  have b31 := iv14_0 hS0.1 ta1 c30
  have p32 := pre8 _ d2
  rw [c30] at p32
  obtain ⟨v33, c34⟩ : ∃ v, I0 a1 1 = v := ⟨_, rfl⟩
  have b35 := iv14_1 hS0.1 ta1 c34
  have p36 := pre9 _ d2
  rw [c34] at p36
  obtain ⟨v37, c38⟩ : ∃ v, I0 a1 2 = v := ⟨_, rfl⟩
  have b39 := iv14_2 hS0.1 ta1 c38
  have p40 := pre10 _ d2
  rw [c38] at p40
  obtain ⟨v41, c42⟩ : ∃ v, I0 a1 3 = v := ⟨_, rfl⟩
  have b43 := iv14_3 hS0.1 ta1 c42
  have p44 := pre11 _ d2
  rw [c42] at p44
  obtain ⟨v45, c46⟩ : ∃ v, I0 a1 4 = v := ⟨_, rfl⟩
  have b47 := iv14_4 hS0.1 ta1 c46
  have p48 := pre12 _ d2
  rw [c46] at p48
  obtain ⟨v49, c50⟩ : ∃ v, I0 a1 5 = v := ⟨_, rfl⟩
  have b51 := iv14_5 hS0.1 ta1 c50
  have p52 := pre13 _ d2
  rw [c50] at p52
  obtain ⟨v53, c54⟩ : ∃ v, I0 a1 6 = v := ⟨_, rfl⟩
  have b55 := iv14_6 hS0.1 ta1 c54
  have p56 := pre14 _ d2
  rw [c54] at p56
  obtain ⟨v57, c58⟩ : ∃ v, I0 a1 9 = v := ⟨_, rfl⟩
  have b59 := iv14_9 hS0.1 ta1 c58
  have p60 := pre15 _ d2
  rw [c58] at p60
  have p61 := pre16
  obtain ⟨v62, c63⟩ : ∃ v, I0 a0 13 = v := ⟨_, rfl⟩
  have hM0 := hN _ d2
  have hO0 : FrO 14 a1 T I0 I0 := FrO.rf
  refine tr_aload_n dX12_readLine_0 rfl ?_
  refine tr_ldcS dX12_readLine_1 ld12_164 ?_
  refine q_callVi hE (M' := mX12_isWord) (as := [_]) dX12_readLine_3 lk12_138 inX12_isWord seX12_isWord myX12_isWord (by decide) ⟨by decide, by decide⟩ rfl (kR15 hS0.1 ta0) (Nat.le_of_ble_eq_true rfl) rfl rfl (by decide) (by decide) (fk_X12_isWord hS0.1 (gB) (gs) ta0 (by decide) (by (try rw [c4]); first | done | with_reducible assumption | omega) (by (try rw [c16]); first | done | assumption)) ?_
  rintro v69 cn' K' N' I64 R65 L66 ⟨rfl, rfl, rfl, rfl, rfl, rfl, h70, dj71, -⟩
  (try rw [pk_1] at dj71)
  rcases dj71 with ⟨p72, p73, p74, -⟩ | ⟨p75, p76, -⟩
  · skip
    have sr77 : srt gB gs = 10 := srt_10 (by exact om_ee8a1e2d p73) (by exact om_46584e8e p74)
    refine q_if_eq 16 dX12_readLine_6 (by decide) (fun h78 => ?_) (fun h78 => ?_)
    · skip
      exfalso; exact om_3624102b p72 h78
    · skip
      refine tr_aload_n dX12_readLine_9 rfl ?_
      refine q_callVv hE (M' := mX12_readAlp) (as := []) dX12_readLine_10 lk12_227 inX12_readAlp seX12_readAlp myX12_readAlp (by decide) ⟨by decide, by decide⟩ rfl (kR15 hS0.1 ta0) (Nat.le_of_ble_eq_true rfl) rfl rfl (by decide) (by decide) (fk_X12_readAlp hS0.1 (gB) (gs) (gQ) ta0 (TxA.kp hT hS0 ta0 rfl rfl rfl (by decide +kernel) (by decide +kernel)) (fun b hb => (Option.some.inj (d2.symm.trans hb)) ▸ hM0) (by (try rw [c4]); first | done | with_reducible assumption | omega) (by (try rw [c4]); first | done | with_reducible assumption | omega) (by (try rw [c9]); first | done | with_reducible assumption | omega) (by (try rw [c13]); first | done | with_reducible assumption | omega) (by (try rw [c16]); first | done | assumption) (by (try rw [c19]); first | done | assumption) (by (try rw [c22]); first | done | assumption) (by (try rw [c26]); first | done | with_reducible assumption | omega) (fun q0 z0 => by obtain rfl := Option.some.inj ((d2).symm.trans z0); (try rw [c30]); first | done | with_reducible assumption | omega) (fun q0 z0 => by obtain rfl := Option.some.inj ((d2).symm.trans z0); (try rw [c34]); first | done | with_reducible assumption | omega) (fun q0 z0 => by obtain rfl := Option.some.inj ((d2).symm.trans z0); (try rw [c38]); first | done | with_reducible assumption | omega) (fun q0 z0 => by obtain rfl := Option.some.inj ((d2).symm.trans z0); (try rw [c42]); first | done | with_reducible assumption | omega) (fun q0 z0 => by obtain rfl := Option.some.inj ((d2).symm.trans z0); (try rw [c46]); first | done | with_reducible assumption | omega) (fun q0 z0 => by obtain rfl := Option.some.inj ((d2).symm.trans z0); (try rw [c50]); first | done | with_reducible assumption | omega) (fun q0 z0 => by obtain rfl := Option.some.inj ((d2).symm.trans z0); (try rw [c54]); first | done | with_reducible assumption | omega) (fun q0 z0 => by obtain rfl := Option.some.inj ((d2).symm.trans z0); (try rw [c58]); first | done | with_reducible assumption | omega) (by first | done | assumption) (by first | done | with_reducible assumption | omega) (by first | done | with_reducible assumption | omega) ⟨_, d2⟩) ?_
      rintro cn' K' N' I79 R80 L81 ⟨rfl, rfl, rfl, rfl, g82, rp85, rp86, dj87, -⟩
      have hS88 := hS0.tr g82 (by decide +kernel) (by decide +kernel)
      have c89 : I79 a1 2 = v37 := (g82.cell ta1 (by decide +kernel)).trans c38
      have c90 : I79 a1 3 = v41 := (g82.cell ta1 (by decide +kernel)).trans c42
      have c91 : I79 a1 4 = v45 := (g82.cell ta1 (by decide +kernel)).trans c46
      have c92 : I79 a1 5 = v49 := (g82.cell ta1 (by decide +kernel)).trans c50
      have c93 : I79 a1 6 = v53 := (g82.cell ta1 (by decide +kernel)).trans c54
      have c94 : I79 a1 9 = v57 := (g82.cell ta1 (by decide +kernel)).trans c58
      have hO95 : FrO 14 a1 T I0 I79 := hO0.tr (rp86 _ d2)
      rcases dj87 with ⟨p96, p97, p98, p99, p100, p101, p102, p103, p104, p105, p106, p107, p108, p109, p110, p111, p112, gl113, rp114, rp115, -⟩ | ⟨p116, p117, p118, p119, -⟩
      · skip
        have hL120 := hL0.tr gl113 (by decide +kernel)
        obtain ⟨v121, c122⟩ : ∃ v, I79 a1 0 = v := ⟨_, rfl⟩
        have b123 := iv14_0 hS88.1 ta1 c122
        have p124 := p97 _ d2
        clear p97
        rw [c122] at p124
        obtain ⟨v125, c126⟩ : ∃ v, I79 a1 1 = v := ⟨_, rfl⟩
        have b127 := iv14_1 hS88.1 ta1 c126
        have p128 := p98 _ d2
        clear p98
        rw [c126] at p128
        have p129 := p99 _ d2
        clear p99
        rw [c89] at p129
        have p130 := p100 _ d2
        clear p100
        rw [c90] at p130
        have p131 := p101 _ d2
        clear p101
        rw [c91] at p131
        have p132 := p102 _ d2
        clear p102
        rw [c92] at p132
        have p133 := p103 _ d2
        clear p103
        rw [c93] at p133
        have p134 := p104 _ d2
        clear p104
        rw [c94] at p134
        obtain ⟨v135, c136⟩ : ∃ v, I79 a0 13 = v := ⟨_, rfl⟩
        rw [c136] at p105
        rw [c63] at p105
        obtain ⟨v137, c138⟩ : ∃ v, I79 a0 9 = v := ⟨_, rfl⟩
        have b139 := iv15_9 hS88.1 ta0 c138
        rw [c138] at p106
        rw [c138] at p107
        obtain ⟨v140, c141⟩ : ∃ v, I79 a0 10 = v := ⟨_, rfl⟩
        have b142 := iv15_10 hS88.1 ta0 c141
        rw [c141] at p108
        obtain ⟨v143, c144⟩ : ∃ v, I79 a0 11 = v := ⟨_, rfl⟩
        rw [c144] at p109
        obtain ⟨y145, c146⟩ : ∃ v, L81 a0 15 = v := ⟨_, rfl⟩
        rw [c146] at p110
        obtain ⟨v147, c148⟩ : ∃ v, I79 a0 12 = v := ⟨_, rfl⟩
        rw [c148] at p111
        obtain ⟨v149, c150⟩ : ∃ v, I79 a0 8 = v := ⟨_, rfl⟩
        have b151 := iv15_8 hS88.1 ta0 c150
        rw [c150] at p112
        refine tr_goto 186 dX12_readLine_13 (by decide) ?_
        obtain ⟨v152, c153⟩ : ∃ v, I79 a0 14 = v := ⟨_, rfl⟩
        exact tr_vret hZ dX12_readLine_186 rfl (by decide) (by decide) ⟨rfl, rfl, rfl, rfl, rfl, hS88, (fun b hb => (Option.some.inj (d2.symm.trans hb)) ▸ ((FrM.rf (R := R0) (b := a1) (T := T)).tr (rp85 _ d2))), (fun dr hd => (Option.some.inj (d2.symm.trans hd)) ▸ hO95), (Or.inl ⟨(by first | done | with_reducible assumption | omega), (fun q0 z0 => by obtain rfl := Option.some.inj ((d2).symm.trans z0); (try rw [c122]); first | done | with_reducible assumption | omega), (fun q0 z0 => by obtain rfl := Option.some.inj ((d2).symm.trans z0); (try rw [c126]); first | done | with_reducible assumption | omega), (fun q0 z0 => by obtain rfl := Option.some.inj ((d2).symm.trans z0); (try rw [c89]); first | done | with_reducible assumption | omega), (fun q0 z0 => by obtain rfl := Option.some.inj ((d2).symm.trans z0); (try rw [c90]); first | done | with_reducible assumption | omega), (fun q0 z0 => by obtain rfl := Option.some.inj ((d2).symm.trans z0); (try rw [c91]); first | done | with_reducible assumption | omega), (fun q0 z0 => by obtain rfl := Option.some.inj ((d2).symm.trans z0); (try rw [c92]); first | done | with_reducible assumption | omega), (fun q0 z0 => by obtain rfl := Option.some.inj ((d2).symm.trans z0); (try rw [c93]); first | done | with_reducible assumption | omega), (fun q0 z0 => by obtain rfl := Option.some.inj ((d2).symm.trans z0); (try rw [c94]); first | done | with_reducible assumption | omega), (by (try rw [c136]); (try rw [c63]); first | done | with_reducible assumption | omega), (by (try rw [c138]); first | done | with_reducible assumption | omega), (by (try rw [c138]); first | done | with_reducible assumption | omega), (by (try rw [c141]); first | done | with_reducible assumption | omega), (by (try rw [c144]); first | done | with_reducible assumption | omega), (by (try rw [c146]); first | done | assumption), (by (try rw [c148]); first | done | assumption), (by (try rw [c150]); first | done | assumption), hL120, (fun b hb => (Option.some.inj (d2.symm.trans hb)) ▸ (rp114 _ d2)), rp115, trivial⟩), trivial⟩
      · skip
        obtain ⟨v154, c155⟩ : ∃ v, I79 a0 9 = v := ⟨_, rfl⟩
        have b156 := iv15_9 hS88.1 ta0 c155
        rw [c155] at p117
        obtain ⟨v157, c158⟩ : ∃ v, I79 a0 13 = v := ⟨_, rfl⟩
        rw [c158] at p118
        obtain ⟨v159, c160⟩ : ∃ v, I79 a0 14 = v := ⟨_, rfl⟩
        rw [c160] at p119
        refine tr_goto 186 dX12_readLine_13 (by decide) ?_
        obtain ⟨v161, c162⟩ : ∃ v, I79 a1 0 = v := ⟨_, rfl⟩
        have b163 := iv14_0 hS88.1 ta1 c162
        obtain ⟨v164, c165⟩ : ∃ v, I79 a1 1 = v := ⟨_, rfl⟩
        have b166 := iv14_1 hS88.1 ta1 c165
        obtain ⟨v167, c168⟩ : ∃ v, I79 a0 10 = v := ⟨_, rfl⟩
        have b169 := iv15_10 hS88.1 ta0 c168
        obtain ⟨v170, c171⟩ : ∃ v, I79 a0 11 = v := ⟨_, rfl⟩
        obtain ⟨y172, c173⟩ : ∃ v, L81 a0 15 = v := ⟨_, rfl⟩
        obtain ⟨v174, c175⟩ : ∃ v, I79 a0 12 = v := ⟨_, rfl⟩
        obtain ⟨v176, c177⟩ : ∃ v, I79 a0 8 = v := ⟨_, rfl⟩
        have b178 := iv15_8 hS88.1 ta0 c177
        exact tr_vret hZ dX12_readLine_186 rfl (by decide) (by decide) ⟨rfl, rfl, rfl, rfl, rfl, hS88, (fun b hb => (Option.some.inj (d2.symm.trans hb)) ▸ ((FrM.rf (R := R0) (b := a1) (T := T)).tr (rp85 _ d2))), (fun dr hd => (Option.some.inj (d2.symm.trans hd)) ▸ hO95), (Or.inr (⟨(by first | done | with_reducible assumption | omega), (by (try rw [c155]); first | done | with_reducible assumption | omega), (by (try rw [c158]); first | done | with_reducible assumption | omega), (by (try rw [c160]); first | done | with_reducible assumption | omega), trivial⟩)), trivial⟩
  · skip
    refine q_if_eq 16 dX12_readLine_6 (by decide) (fun h179 => ?_) (fun h179 => ?_)
    · skip
      refine tr_aload_n dX12_readLine_16 rfl ?_
      refine tr_ldcS dX12_readLine_17 ld12_166 ?_
      refine q_callVi hE (M' := mX12_isWord) (as := [_]) dX12_readLine_19 lk12_138 inX12_isWord seX12_isWord myX12_isWord (by decide) ⟨by decide, by decide⟩ rfl (kR15 hS0.1 ta0) (Nat.le_of_ble_eq_true rfl) rfl rfl (by decide) (by decide) (fk_X12_isWord hS0.1 (gB) (gs) ta0 (by decide) (by (try rw [c4]); first | done | with_reducible assumption | omega) (by (try rw [c16]); first | done | assumption)) ?_
      rintro v185 cn' K' N' I180 R181 L182 ⟨rfl, rfl, rfl, rfl, rfl, rfl, h186, dj187, -⟩
      (try rw [pk_7] at dj187)
      rcases dj187 with ⟨p188, p189, p190, -⟩ | ⟨p191, p192, -⟩
      · skip
        have sr193 : srt gB gs = 0 := srt_0 (by exact om_ee8a1e2d p189) (by exact om_3b285b84 p190)
        refine q_if_eq 33 dX12_readLine_22 (by decide) (fun h194 => ?_) (fun h194 => ?_)
        · skip
          exfalso; exact om_3624102b p188 h194
        · skip
          refine tr_aload_n dX12_readLine_25 rfl ?_
          refine q_iconst dX12_readLine_26 (by decide) ?_
          intro v195 h196
          refine q_callVv hE (M' := mX12_readEvent) (as := [_]) dX12_readLine_27 lk12_230 inX12_readEvent seX12_readEvent myX12_readEvent (by decide) ⟨by decide, by decide⟩ rfl (kR15 hS0.1 ta0) (Nat.le_of_ble_eq_true rfl) rfl rfl (by decide) (by decide) (fk_X12_readEvent hS0.1 (gB) (gs) (gQ) ta0 (by exact om_e8b39ab5 h196) (TxA.kp hT hS0 ta0 rfl rfl rfl (by decide +kernel) (by decide +kernel)) (fun b hb => (Option.some.inj (d2.symm.trans hb)) ▸ hM0) (by (try rw [c4]); first | done | with_reducible assumption | omega) (by (try rw [c4]); first | done | with_reducible assumption | omega) (by (try rw [c9]); first | done | with_reducible assumption | omega) (by (try rw [c13]); first | done | with_reducible assumption | omega) (by (try rw [c16]); first | done | assumption) (by (try rw [c19]); first | done | assumption) (by (try rw [c22]); first | done | assumption) (by (try rw [c26]); first | done | with_reducible assumption | omega) (fun q0 z0 => by obtain rfl := Option.some.inj ((d2).symm.trans z0); (try rw [c30]); first | done | with_reducible assumption | omega) (fun q0 z0 => by obtain rfl := Option.some.inj ((d2).symm.trans z0); (try rw [c34]); first | done | with_reducible assumption | omega) (fun q0 z0 => by obtain rfl := Option.some.inj ((d2).symm.trans z0); (try rw [c38]); first | done | with_reducible assumption | omega) (fun q0 z0 => by obtain rfl := Option.some.inj ((d2).symm.trans z0); (try rw [c42]); first | done | with_reducible assumption | omega) (fun q0 z0 => by obtain rfl := Option.some.inj ((d2).symm.trans z0); (try rw [c46]); first | done | with_reducible assumption | omega) (fun q0 z0 => by obtain rfl := Option.some.inj ((d2).symm.trans z0); (try rw [c50]); first | done | with_reducible assumption | omega) (fun q0 z0 => by obtain rfl := Option.some.inj ((d2).symm.trans z0); (try rw [c54]); first | done | with_reducible assumption | omega) (fun q0 z0 => by obtain rfl := Option.some.inj ((d2).symm.trans z0); (try rw [c58]); first | done | with_reducible assumption | omega) (by first | done | assumption) (by first | done | with_reducible assumption | omega) (by first | done | with_reducible assumption | exact om_5bac22bd sr193 h196) ⟨_, d2⟩) ?_
          rintro cn' K' N' I197 R198 L199 ⟨rfl, rfl, rfl, rfl, g200, rp203, rp204, dj205, -⟩
          have hS206 := hS0.tr g200 (by decide +kernel) (by decide +kernel)
          have c207 : I197 a1 0 = v29 := (g200.cell ta1 (by decide +kernel)).trans c30
          have c208 : I197 a1 1 = v33 := (g200.cell ta1 (by decide +kernel)).trans c34
          have c209 : I197 a1 3 = v41 := (g200.cell ta1 (by decide +kernel)).trans c42
          have c210 : I197 a1 4 = v45 := (g200.cell ta1 (by decide +kernel)).trans c46
          have c211 : I197 a1 5 = v49 := (g200.cell ta1 (by decide +kernel)).trans c50
          have c212 : I197 a1 6 = v53 := (g200.cell ta1 (by decide +kernel)).trans c54
          have c213 : I197 a1 9 = v57 := (g200.cell ta1 (by decide +kernel)).trans c58
          have hO214 : FrO 14 a1 T I0 I197 := hO0.tr (rp204 _ d2)
          rcases dj205 with ⟨p215, p216, p217, p218, p219, p220, p221, p222, p223, p224, p225, p226, p227, p228, p229, p230, p231, gl232, rp233, rp234, -⟩ | ⟨p235, p236, p237, p238, -⟩
          · skip
            have hL239 := hL0.tr gl232 (by decide +kernel)
            have p240 := p216 _ d2
            clear p216
            rw [c207] at p240
            have p241 := p217 _ d2
            clear p217
            rw [c208] at p241
            obtain ⟨v242, c243⟩ : ∃ v, I197 a1 2 = v := ⟨_, rfl⟩
            have b244 := iv14_2 hS206.1 ta1 c243
            have p245 := p218 _ d2
            clear p218
            rw [c243] at p245
            have p246 := p219 _ d2
            clear p219
            rw [c209] at p246
            have p247 := p220 _ d2
            clear p220
            rw [c210] at p247
            have p248 := p221 _ d2
            clear p221
            rw [c211] at p248
            have p249 := p222 _ d2
            clear p222
            rw [c212] at p249
            have p250 := p223 _ d2
            clear p223
            rw [c213] at p250
            obtain ⟨v251, c252⟩ : ∃ v, I197 a0 13 = v := ⟨_, rfl⟩
            rw [c252] at p224
            rw [c63] at p224
            obtain ⟨v253, c254⟩ : ∃ v, I197 a0 9 = v := ⟨_, rfl⟩
            have b255 := iv15_9 hS206.1 ta0 c254
            rw [c254] at p225
            rw [c254] at p226
            obtain ⟨v256, c257⟩ : ∃ v, I197 a0 10 = v := ⟨_, rfl⟩
            have b258 := iv15_10 hS206.1 ta0 c257
            rw [c257] at p227
            obtain ⟨v259, c260⟩ : ∃ v, I197 a0 11 = v := ⟨_, rfl⟩
            rw [c260] at p228
            obtain ⟨y261, c262⟩ : ∃ v, L199 a0 15 = v := ⟨_, rfl⟩
            rw [c262] at p229
            obtain ⟨v263, c264⟩ : ∃ v, I197 a0 12 = v := ⟨_, rfl⟩
            rw [c264] at p230
            obtain ⟨v265, c266⟩ : ∃ v, I197 a0 8 = v := ⟨_, rfl⟩
            have b267 := iv15_8 hS206.1 ta0 c266
            rw [c266] at p231
            refine tr_goto 186 dX12_readLine_30 (by decide) ?_
            obtain ⟨v268, c269⟩ : ∃ v, I197 a0 14 = v := ⟨_, rfl⟩
            exact tr_vret hZ dX12_readLine_186 rfl (by decide) (by decide) ⟨rfl, rfl, rfl, rfl, rfl, hS206, (fun b hb => (Option.some.inj (d2.symm.trans hb)) ▸ ((FrM.rf (R := R0) (b := a1) (T := T)).tr (rp203 _ d2))), (fun dr hd => (Option.some.inj (d2.symm.trans hd)) ▸ hO214), (Or.inl ⟨(by first | done | with_reducible assumption | omega), (fun q0 z0 => by obtain rfl := Option.some.inj ((d2).symm.trans z0); (try rw [c207]); first | done | with_reducible assumption | omega), (fun q0 z0 => by obtain rfl := Option.some.inj ((d2).symm.trans z0); (try rw [c208]); first | done | with_reducible assumption | omega), (fun q0 z0 => by obtain rfl := Option.some.inj ((d2).symm.trans z0); (try rw [c243]); first | done | with_reducible assumption | omega), (fun q0 z0 => by obtain rfl := Option.some.inj ((d2).symm.trans z0); (try rw [c209]); first | done | with_reducible assumption | omega), (fun q0 z0 => by obtain rfl := Option.some.inj ((d2).symm.trans z0); (try rw [c210]); first | done | with_reducible assumption | omega), (fun q0 z0 => by obtain rfl := Option.some.inj ((d2).symm.trans z0); (try rw [c211]); first | done | with_reducible assumption | omega), (fun q0 z0 => by obtain rfl := Option.some.inj ((d2).symm.trans z0); (try rw [c212]); first | done | with_reducible assumption | omega), (fun q0 z0 => by obtain rfl := Option.some.inj ((d2).symm.trans z0); (try rw [c213]); first | done | with_reducible assumption | omega), (by (try rw [c252]); (try rw [c63]); first | done | with_reducible assumption | omega), (by (try rw [c254]); first | done | with_reducible assumption | omega), (by (try rw [c254]); first | done | with_reducible assumption | omega), (by (try rw [c257]); first | done | with_reducible assumption | omega), (by (try rw [c260]); first | done | with_reducible assumption | omega), (by (try rw [c262]); first | done | assumption), (by (try rw [c264]); first | done | assumption), (by (try rw [c266]); first | done | assumption), hL239, (fun b hb => (Option.some.inj (d2.symm.trans hb)) ▸ (rp233 _ d2)), rp234, trivial⟩), trivial⟩
          · skip
            obtain ⟨v270, c271⟩ : ∃ v, I197 a0 9 = v := ⟨_, rfl⟩
            have b272 := iv15_9 hS206.1 ta0 c271
            rw [c271] at p236
            obtain ⟨v273, c274⟩ : ∃ v, I197 a0 13 = v := ⟨_, rfl⟩
            rw [c274] at p237
            obtain ⟨v275, c276⟩ : ∃ v, I197 a0 14 = v := ⟨_, rfl⟩
            rw [c276] at p238
            refine tr_goto 186 dX12_readLine_30 (by decide) ?_
            obtain ⟨v277, c278⟩ : ∃ v, I197 a1 2 = v := ⟨_, rfl⟩
            have b279 := iv14_2 hS206.1 ta1 c278
            obtain ⟨v280, c281⟩ : ∃ v, I197 a0 10 = v := ⟨_, rfl⟩
            have b282 := iv15_10 hS206.1 ta0 c281
            obtain ⟨v283, c284⟩ : ∃ v, I197 a0 11 = v := ⟨_, rfl⟩
            obtain ⟨y285, c286⟩ : ∃ v, L199 a0 15 = v := ⟨_, rfl⟩
            obtain ⟨v287, c288⟩ : ∃ v, I197 a0 12 = v := ⟨_, rfl⟩
            obtain ⟨v289, c290⟩ : ∃ v, I197 a0 8 = v := ⟨_, rfl⟩
            have b291 := iv15_8 hS206.1 ta0 c290
            exact tr_vret hZ dX12_readLine_186 rfl (by decide) (by decide) ⟨rfl, rfl, rfl, rfl, rfl, hS206, (fun b hb => (Option.some.inj (d2.symm.trans hb)) ▸ ((FrM.rf (R := R0) (b := a1) (T := T)).tr (rp203 _ d2))), (fun dr hd => (Option.some.inj (d2.symm.trans hd)) ▸ hO214), (Or.inr (⟨(by first | done | with_reducible assumption | omega), (by (try rw [c271]); first | done | with_reducible assumption | omega), (by (try rw [c274]); first | done | with_reducible assumption | omega), (by (try rw [c276]); first | done | with_reducible assumption | omega), trivial⟩)), trivial⟩
      · skip
        refine q_if_eq 33 dX12_readLine_22 (by decide) (fun h292 => ?_) (fun h292 => ?_)
        · skip
          refine tr_aload_n dX12_readLine_33 rfl ?_
          refine tr_ldcS dX12_readLine_34 ld12_168 ?_
          refine q_callVi hE (M' := mX12_isWord) (as := [_]) dX12_readLine_36 lk12_138 inX12_isWord seX12_isWord myX12_isWord (by decide) ⟨by decide, by decide⟩ rfl (kR15 hS0.1 ta0) (Nat.le_of_ble_eq_true rfl) rfl rfl (by decide) (by decide) (fk_X12_isWord hS0.1 (gB) (gs) ta0 (by decide) (by (try rw [c4]); first | done | with_reducible assumption | omega) (by (try rw [c16]); first | done | assumption)) ?_
          rintro v298 cn' K' N' I293 R294 L295 ⟨rfl, rfl, rfl, rfl, rfl, rfl, h299, dj300, -⟩
          (try rw [pk_11] at dj300)
          rcases dj300 with ⟨p301, p302, p303, -⟩ | ⟨p304, p305, -⟩
          · skip
            have sr306 : srt gB gs = 1 := srt_1 (by exact om_ee8a1e2d p302) (by exact om_cc231fd3 p303)
            refine q_if_eq 50 dX12_readLine_39 (by decide) (fun h307 => ?_) (fun h307 => ?_)
            · skip
              exfalso; exact om_3624102b p301 h307
            · skip
              refine tr_aload_n dX12_readLine_42 rfl ?_
              refine q_iconst dX12_readLine_43 (by decide) ?_
              intro v308 h309
              refine q_callVv hE (M' := mX12_readEvent) (as := [_]) dX12_readLine_44 lk12_230 inX12_readEvent seX12_readEvent myX12_readEvent (by decide) ⟨by decide, by decide⟩ rfl (kR15 hS0.1 ta0) (Nat.le_of_ble_eq_true rfl) rfl rfl (by decide) (by decide) (fk_X12_readEvent hS0.1 (gB) (gs) (gQ) ta0 (by exact om_62c8e017 h309) (TxA.kp hT hS0 ta0 rfl rfl rfl (by decide +kernel) (by decide +kernel)) (fun b hb => (Option.some.inj (d2.symm.trans hb)) ▸ hM0) (by (try rw [c4]); first | done | with_reducible assumption | omega) (by (try rw [c4]); first | done | with_reducible assumption | omega) (by (try rw [c9]); first | done | with_reducible assumption | omega) (by (try rw [c13]); first | done | with_reducible assumption | omega) (by (try rw [c16]); first | done | assumption) (by (try rw [c19]); first | done | assumption) (by (try rw [c22]); first | done | assumption) (by (try rw [c26]); first | done | with_reducible assumption | omega) (fun q0 z0 => by obtain rfl := Option.some.inj ((d2).symm.trans z0); (try rw [c30]); first | done | with_reducible assumption | omega) (fun q0 z0 => by obtain rfl := Option.some.inj ((d2).symm.trans z0); (try rw [c34]); first | done | with_reducible assumption | omega) (fun q0 z0 => by obtain rfl := Option.some.inj ((d2).symm.trans z0); (try rw [c38]); first | done | with_reducible assumption | omega) (fun q0 z0 => by obtain rfl := Option.some.inj ((d2).symm.trans z0); (try rw [c42]); first | done | with_reducible assumption | omega) (fun q0 z0 => by obtain rfl := Option.some.inj ((d2).symm.trans z0); (try rw [c46]); first | done | with_reducible assumption | omega) (fun q0 z0 => by obtain rfl := Option.some.inj ((d2).symm.trans z0); (try rw [c50]); first | done | with_reducible assumption | omega) (fun q0 z0 => by obtain rfl := Option.some.inj ((d2).symm.trans z0); (try rw [c54]); first | done | with_reducible assumption | omega) (fun q0 z0 => by obtain rfl := Option.some.inj ((d2).symm.trans z0); (try rw [c58]); first | done | with_reducible assumption | omega) (by first | done | assumption) (by first | done | with_reducible assumption | omega) (by first | done | with_reducible assumption | exact om_3345b898 sr306 h309) ⟨_, d2⟩) ?_
              rintro cn' K' N' I310 R311 L312 ⟨rfl, rfl, rfl, rfl, g313, rp316, rp317, dj318, -⟩
              have hS319 := hS0.tr g313 (by decide +kernel) (by decide +kernel)
              have c320 : I310 a1 0 = v29 := (g313.cell ta1 (by decide +kernel)).trans c30
              have c321 : I310 a1 1 = v33 := (g313.cell ta1 (by decide +kernel)).trans c34
              have c322 : I310 a1 3 = v41 := (g313.cell ta1 (by decide +kernel)).trans c42
              have c323 : I310 a1 4 = v45 := (g313.cell ta1 (by decide +kernel)).trans c46
              have c324 : I310 a1 5 = v49 := (g313.cell ta1 (by decide +kernel)).trans c50
              have c325 : I310 a1 6 = v53 := (g313.cell ta1 (by decide +kernel)).trans c54
              have c326 : I310 a1 9 = v57 := (g313.cell ta1 (by decide +kernel)).trans c58
              have hO327 : FrO 14 a1 T I0 I310 := hO0.tr (rp317 _ d2)
              rcases dj318 with ⟨p328, p329, p330, p331, p332, p333, p334, p335, p336, p337, p338, p339, p340, p341, p342, p343, p344, gl345, rp346, rp347, -⟩ | ⟨p348, p349, p350, p351, -⟩
              · skip
                have hL352 := hL0.tr gl345 (by decide +kernel)
                have p353 := p329 _ d2
                clear p329
                rw [c320] at p353
                have p354 := p330 _ d2
                clear p330
                rw [c321] at p354
                obtain ⟨v355, c356⟩ : ∃ v, I310 a1 2 = v := ⟨_, rfl⟩
                have b357 := iv14_2 hS319.1 ta1 c356
                have p358 := p331 _ d2
                clear p331
                rw [c356] at p358
                have p359 := p332 _ d2
                clear p332
                rw [c322] at p359
                have p360 := p333 _ d2
                clear p333
                rw [c323] at p360
                have p361 := p334 _ d2
                clear p334
                rw [c324] at p361
                have p362 := p335 _ d2
                clear p335
                rw [c325] at p362
                have p363 := p336 _ d2
                clear p336
                rw [c326] at p363
                obtain ⟨v364, c365⟩ : ∃ v, I310 a0 13 = v := ⟨_, rfl⟩
                rw [c365] at p337
                rw [c63] at p337
                obtain ⟨v366, c367⟩ : ∃ v, I310 a0 9 = v := ⟨_, rfl⟩
                have b368 := iv15_9 hS319.1 ta0 c367
                rw [c367] at p338
                rw [c367] at p339
                obtain ⟨v369, c370⟩ : ∃ v, I310 a0 10 = v := ⟨_, rfl⟩
                have b371 := iv15_10 hS319.1 ta0 c370
                rw [c370] at p340
                obtain ⟨v372, c373⟩ : ∃ v, I310 a0 11 = v := ⟨_, rfl⟩
                rw [c373] at p341
                obtain ⟨y374, c375⟩ : ∃ v, L312 a0 15 = v := ⟨_, rfl⟩
                rw [c375] at p342
                obtain ⟨v376, c377⟩ : ∃ v, I310 a0 12 = v := ⟨_, rfl⟩
                rw [c377] at p343
                obtain ⟨v378, c379⟩ : ∃ v, I310 a0 8 = v := ⟨_, rfl⟩
                have b380 := iv15_8 hS319.1 ta0 c379
                rw [c379] at p344
                refine tr_goto 186 dX12_readLine_47 (by decide) ?_
                obtain ⟨v381, c382⟩ : ∃ v, I310 a0 14 = v := ⟨_, rfl⟩
                exact tr_vret hZ dX12_readLine_186 rfl (by decide) (by decide) ⟨rfl, rfl, rfl, rfl, rfl, hS319, (fun b hb => (Option.some.inj (d2.symm.trans hb)) ▸ ((FrM.rf (R := R0) (b := a1) (T := T)).tr (rp316 _ d2))), (fun dr hd => (Option.some.inj (d2.symm.trans hd)) ▸ hO327), (Or.inl ⟨(by first | done | with_reducible assumption | omega), (fun q0 z0 => by obtain rfl := Option.some.inj ((d2).symm.trans z0); (try rw [c320]); first | done | with_reducible assumption | omega), (fun q0 z0 => by obtain rfl := Option.some.inj ((d2).symm.trans z0); (try rw [c321]); first | done | with_reducible assumption | omega), (fun q0 z0 => by obtain rfl := Option.some.inj ((d2).symm.trans z0); (try rw [c356]); first | done | with_reducible assumption | omega), (fun q0 z0 => by obtain rfl := Option.some.inj ((d2).symm.trans z0); (try rw [c322]); first | done | with_reducible assumption | omega), (fun q0 z0 => by obtain rfl := Option.some.inj ((d2).symm.trans z0); (try rw [c323]); first | done | with_reducible assumption | omega), (fun q0 z0 => by obtain rfl := Option.some.inj ((d2).symm.trans z0); (try rw [c324]); first | done | with_reducible assumption | omega), (fun q0 z0 => by obtain rfl := Option.some.inj ((d2).symm.trans z0); (try rw [c325]); first | done | with_reducible assumption | omega), (fun q0 z0 => by obtain rfl := Option.some.inj ((d2).symm.trans z0); (try rw [c326]); first | done | with_reducible assumption | omega), (by (try rw [c365]); (try rw [c63]); first | done | with_reducible assumption | omega), (by (try rw [c367]); first | done | with_reducible assumption | omega), (by (try rw [c367]); first | done | with_reducible assumption | omega), (by (try rw [c370]); first | done | with_reducible assumption | omega), (by (try rw [c373]); first | done | with_reducible assumption | omega), (by (try rw [c375]); first | done | assumption), (by (try rw [c377]); first | done | assumption), (by (try rw [c379]); first | done | assumption), hL352, (fun b hb => (Option.some.inj (d2.symm.trans hb)) ▸ (rp346 _ d2)), rp347, trivial⟩), trivial⟩
              · skip
                obtain ⟨v383, c384⟩ : ∃ v, I310 a0 9 = v := ⟨_, rfl⟩
                have b385 := iv15_9 hS319.1 ta0 c384
                rw [c384] at p349
                obtain ⟨v386, c387⟩ : ∃ v, I310 a0 13 = v := ⟨_, rfl⟩
                rw [c387] at p350
                obtain ⟨v388, c389⟩ : ∃ v, I310 a0 14 = v := ⟨_, rfl⟩
                rw [c389] at p351
                refine tr_goto 186 dX12_readLine_47 (by decide) ?_
                obtain ⟨v390, c391⟩ : ∃ v, I310 a1 2 = v := ⟨_, rfl⟩
                have b392 := iv14_2 hS319.1 ta1 c391
                obtain ⟨v393, c394⟩ : ∃ v, I310 a0 10 = v := ⟨_, rfl⟩
                have b395 := iv15_10 hS319.1 ta0 c394
                obtain ⟨v396, c397⟩ : ∃ v, I310 a0 11 = v := ⟨_, rfl⟩
                obtain ⟨y398, c399⟩ : ∃ v, L312 a0 15 = v := ⟨_, rfl⟩
                obtain ⟨v400, c401⟩ : ∃ v, I310 a0 12 = v := ⟨_, rfl⟩
                obtain ⟨v402, c403⟩ : ∃ v, I310 a0 8 = v := ⟨_, rfl⟩
                have b404 := iv15_8 hS319.1 ta0 c403
                exact tr_vret hZ dX12_readLine_186 rfl (by decide) (by decide) ⟨rfl, rfl, rfl, rfl, rfl, hS319, (fun b hb => (Option.some.inj (d2.symm.trans hb)) ▸ ((FrM.rf (R := R0) (b := a1) (T := T)).tr (rp316 _ d2))), (fun dr hd => (Option.some.inj (d2.symm.trans hd)) ▸ hO327), (Or.inr (⟨(by first | done | with_reducible assumption | omega), (by (try rw [c384]); first | done | with_reducible assumption | omega), (by (try rw [c387]); first | done | with_reducible assumption | omega), (by (try rw [c389]); first | done | with_reducible assumption | omega), trivial⟩)), trivial⟩
          · skip
            refine q_if_eq 50 dX12_readLine_39 (by decide) (fun h405 => ?_) (fun h405 => ?_)
            · skip
              refine tr_aload_n dX12_readLine_50 rfl ?_
              refine tr_ldcS dX12_readLine_51 ld12_170 ?_
              refine q_callVi hE (M' := mX12_isWord) (as := [_]) dX12_readLine_53 lk12_138 inX12_isWord seX12_isWord myX12_isWord (by decide) ⟨by decide, by decide⟩ rfl (kR15 hS0.1 ta0) (Nat.le_of_ble_eq_true rfl) rfl rfl (by decide) (by decide) (fk_X12_isWord hS0.1 (gB) (gs) ta0 (by decide) (by (try rw [c4]); first | done | with_reducible assumption | omega) (by (try rw [c16]); first | done | assumption)) ?_
              rintro v411 cn' K' N' I406 R407 L408 ⟨rfl, rfl, rfl, rfl, rfl, rfl, h412, dj413, -⟩
              (try rw [pk_17] at dj413)
              rcases dj413 with ⟨p414, p415, p416, -⟩ | ⟨p417, p418, -⟩
              · skip
                have sr419 : srt gB gs = 2 := srt_2 (by exact om_ee8a1e2d p415) (by exact om_fdfade78 p416)
                refine q_if_eq 67 dX12_readLine_56 (by decide) (fun h420 => ?_) (fun h420 => ?_)
                · skip
                  exfalso; exact om_3624102b p414 h420
                · skip
                  refine tr_aload_n dX12_readLine_59 rfl ?_
                  refine q_iconst dX12_readLine_60 (by decide) ?_
                  intro v421 h422
                  refine q_callVv hE (M' := mX12_readEvent) (as := [_]) dX12_readLine_61 lk12_230 inX12_readEvent seX12_readEvent myX12_readEvent (by decide) ⟨by decide, by decide⟩ rfl (kR15 hS0.1 ta0) (Nat.le_of_ble_eq_true rfl) rfl rfl (by decide) (by decide) (fk_X12_readEvent hS0.1 (gB) (gs) (gQ) ta0 (by exact om_c87b88ad h422) (TxA.kp hT hS0 ta0 rfl rfl rfl (by decide +kernel) (by decide +kernel)) (fun b hb => (Option.some.inj (d2.symm.trans hb)) ▸ hM0) (by (try rw [c4]); first | done | with_reducible assumption | omega) (by (try rw [c4]); first | done | with_reducible assumption | omega) (by (try rw [c9]); first | done | with_reducible assumption | omega) (by (try rw [c13]); first | done | with_reducible assumption | omega) (by (try rw [c16]); first | done | assumption) (by (try rw [c19]); first | done | assumption) (by (try rw [c22]); first | done | assumption) (by (try rw [c26]); first | done | with_reducible assumption | omega) (fun q0 z0 => by obtain rfl := Option.some.inj ((d2).symm.trans z0); (try rw [c30]); first | done | with_reducible assumption | omega) (fun q0 z0 => by obtain rfl := Option.some.inj ((d2).symm.trans z0); (try rw [c34]); first | done | with_reducible assumption | omega) (fun q0 z0 => by obtain rfl := Option.some.inj ((d2).symm.trans z0); (try rw [c38]); first | done | with_reducible assumption | omega) (fun q0 z0 => by obtain rfl := Option.some.inj ((d2).symm.trans z0); (try rw [c42]); first | done | with_reducible assumption | omega) (fun q0 z0 => by obtain rfl := Option.some.inj ((d2).symm.trans z0); (try rw [c46]); first | done | with_reducible assumption | omega) (fun q0 z0 => by obtain rfl := Option.some.inj ((d2).symm.trans z0); (try rw [c50]); first | done | with_reducible assumption | omega) (fun q0 z0 => by obtain rfl := Option.some.inj ((d2).symm.trans z0); (try rw [c54]); first | done | with_reducible assumption | omega) (fun q0 z0 => by obtain rfl := Option.some.inj ((d2).symm.trans z0); (try rw [c58]); first | done | with_reducible assumption | omega) (by first | done | assumption) (by first | done | with_reducible assumption | omega) (by first | done | with_reducible assumption | exact om_c17e5678 sr419 h422) ⟨_, d2⟩) ?_
                  rintro cn' K' N' I423 R424 L425 ⟨rfl, rfl, rfl, rfl, g426, rp429, rp430, dj431, -⟩
                  have hS432 := hS0.tr g426 (by decide +kernel) (by decide +kernel)
                  have c433 : I423 a1 0 = v29 := (g426.cell ta1 (by decide +kernel)).trans c30
                  have c434 : I423 a1 1 = v33 := (g426.cell ta1 (by decide +kernel)).trans c34
                  have c435 : I423 a1 3 = v41 := (g426.cell ta1 (by decide +kernel)).trans c42
                  have c436 : I423 a1 4 = v45 := (g426.cell ta1 (by decide +kernel)).trans c46
                  have c437 : I423 a1 5 = v49 := (g426.cell ta1 (by decide +kernel)).trans c50
                  have c438 : I423 a1 6 = v53 := (g426.cell ta1 (by decide +kernel)).trans c54
                  have c439 : I423 a1 9 = v57 := (g426.cell ta1 (by decide +kernel)).trans c58
                  have hO440 : FrO 14 a1 T I0 I423 := hO0.tr (rp430 _ d2)
                  rcases dj431 with ⟨p441, p442, p443, p444, p445, p446, p447, p448, p449, p450, p451, p452, p453, p454, p455, p456, p457, gl458, rp459, rp460, -⟩ | ⟨p461, p462, p463, p464, -⟩
                  · skip
                    have hL465 := hL0.tr gl458 (by decide +kernel)
                    have p466 := p442 _ d2
                    clear p442
                    rw [c433] at p466
                    have p467 := p443 _ d2
                    clear p443
                    rw [c434] at p467
                    obtain ⟨v468, c469⟩ : ∃ v, I423 a1 2 = v := ⟨_, rfl⟩
                    have b470 := iv14_2 hS432.1 ta1 c469
                    have p471 := p444 _ d2
                    clear p444
                    rw [c469] at p471
                    have p472 := p445 _ d2
                    clear p445
                    rw [c435] at p472
                    have p473 := p446 _ d2
                    clear p446
                    rw [c436] at p473
                    have p474 := p447 _ d2
                    clear p447
                    rw [c437] at p474
                    have p475 := p448 _ d2
                    clear p448
                    rw [c438] at p475
                    have p476 := p449 _ d2
                    clear p449
                    rw [c439] at p476
                    obtain ⟨v477, c478⟩ : ∃ v, I423 a0 13 = v := ⟨_, rfl⟩
                    rw [c478] at p450
                    rw [c63] at p450
                    obtain ⟨v479, c480⟩ : ∃ v, I423 a0 9 = v := ⟨_, rfl⟩
                    have b481 := iv15_9 hS432.1 ta0 c480
                    rw [c480] at p451
                    rw [c480] at p452
                    obtain ⟨v482, c483⟩ : ∃ v, I423 a0 10 = v := ⟨_, rfl⟩
                    have b484 := iv15_10 hS432.1 ta0 c483
                    rw [c483] at p453
                    obtain ⟨v485, c486⟩ : ∃ v, I423 a0 11 = v := ⟨_, rfl⟩
                    rw [c486] at p454
                    obtain ⟨y487, c488⟩ : ∃ v, L425 a0 15 = v := ⟨_, rfl⟩
                    rw [c488] at p455
                    obtain ⟨v489, c490⟩ : ∃ v, I423 a0 12 = v := ⟨_, rfl⟩
                    rw [c490] at p456
                    obtain ⟨v491, c492⟩ : ∃ v, I423 a0 8 = v := ⟨_, rfl⟩
                    have b493 := iv15_8 hS432.1 ta0 c492
                    rw [c492] at p457
                    refine tr_goto 186 dX12_readLine_64 (by decide) ?_
                    obtain ⟨v494, c495⟩ : ∃ v, I423 a0 14 = v := ⟨_, rfl⟩
                    exact tr_vret hZ dX12_readLine_186 rfl (by decide) (by decide) ⟨rfl, rfl, rfl, rfl, rfl, hS432, (fun b hb => (Option.some.inj (d2.symm.trans hb)) ▸ ((FrM.rf (R := R0) (b := a1) (T := T)).tr (rp429 _ d2))), (fun dr hd => (Option.some.inj (d2.symm.trans hd)) ▸ hO440), (Or.inl ⟨(by first | done | with_reducible assumption | omega), (fun q0 z0 => by obtain rfl := Option.some.inj ((d2).symm.trans z0); (try rw [c433]); first | done | with_reducible assumption | omega), (fun q0 z0 => by obtain rfl := Option.some.inj ((d2).symm.trans z0); (try rw [c434]); first | done | with_reducible assumption | omega), (fun q0 z0 => by obtain rfl := Option.some.inj ((d2).symm.trans z0); (try rw [c469]); first | done | with_reducible assumption | omega), (fun q0 z0 => by obtain rfl := Option.some.inj ((d2).symm.trans z0); (try rw [c435]); first | done | with_reducible assumption | omega), (fun q0 z0 => by obtain rfl := Option.some.inj ((d2).symm.trans z0); (try rw [c436]); first | done | with_reducible assumption | omega), (fun q0 z0 => by obtain rfl := Option.some.inj ((d2).symm.trans z0); (try rw [c437]); first | done | with_reducible assumption | omega), (fun q0 z0 => by obtain rfl := Option.some.inj ((d2).symm.trans z0); (try rw [c438]); first | done | with_reducible assumption | omega), (fun q0 z0 => by obtain rfl := Option.some.inj ((d2).symm.trans z0); (try rw [c439]); first | done | with_reducible assumption | omega), (by (try rw [c478]); (try rw [c63]); first | done | with_reducible assumption | omega), (by (try rw [c480]); first | done | with_reducible assumption | omega), (by (try rw [c480]); first | done | with_reducible assumption | omega), (by (try rw [c483]); first | done | with_reducible assumption | omega), (by (try rw [c486]); first | done | with_reducible assumption | omega), (by (try rw [c488]); first | done | assumption), (by (try rw [c490]); first | done | assumption), (by (try rw [c492]); first | done | assumption), hL465, (fun b hb => (Option.some.inj (d2.symm.trans hb)) ▸ (rp459 _ d2)), rp460, trivial⟩), trivial⟩
                  · skip
                    obtain ⟨v496, c497⟩ : ∃ v, I423 a0 9 = v := ⟨_, rfl⟩
                    have b498 := iv15_9 hS432.1 ta0 c497
                    rw [c497] at p462
                    obtain ⟨v499, c500⟩ : ∃ v, I423 a0 13 = v := ⟨_, rfl⟩
                    rw [c500] at p463
                    obtain ⟨v501, c502⟩ : ∃ v, I423 a0 14 = v := ⟨_, rfl⟩
                    rw [c502] at p464
                    refine tr_goto 186 dX12_readLine_64 (by decide) ?_
                    obtain ⟨v503, c504⟩ : ∃ v, I423 a1 2 = v := ⟨_, rfl⟩
                    have b505 := iv14_2 hS432.1 ta1 c504
                    obtain ⟨v506, c507⟩ : ∃ v, I423 a0 10 = v := ⟨_, rfl⟩
                    have b508 := iv15_10 hS432.1 ta0 c507
                    obtain ⟨v509, c510⟩ : ∃ v, I423 a0 11 = v := ⟨_, rfl⟩
                    obtain ⟨y511, c512⟩ : ∃ v, L425 a0 15 = v := ⟨_, rfl⟩
                    obtain ⟨v513, c514⟩ : ∃ v, I423 a0 12 = v := ⟨_, rfl⟩
                    obtain ⟨v515, c516⟩ : ∃ v, I423 a0 8 = v := ⟨_, rfl⟩
                    have b517 := iv15_8 hS432.1 ta0 c516
                    exact tr_vret hZ dX12_readLine_186 rfl (by decide) (by decide) ⟨rfl, rfl, rfl, rfl, rfl, hS432, (fun b hb => (Option.some.inj (d2.symm.trans hb)) ▸ ((FrM.rf (R := R0) (b := a1) (T := T)).tr (rp429 _ d2))), (fun dr hd => (Option.some.inj (d2.symm.trans hd)) ▸ hO440), (Or.inr (⟨(by first | done | with_reducible assumption | omega), (by (try rw [c497]); first | done | with_reducible assumption | omega), (by (try rw [c500]); first | done | with_reducible assumption | omega), (by (try rw [c502]); first | done | with_reducible assumption | omega), trivial⟩)), trivial⟩
              · skip
                refine q_if_eq 67 dX12_readLine_56 (by decide) (fun h518 => ?_) (fun h518 => ?_)
                · skip
                  refine tr_aload_n dX12_readLine_67 rfl ?_
                  refine tr_ldcS dX12_readLine_68 ld12_172 ?_
                  refine q_callVi hE (M' := mX12_isWord) (as := [_]) dX12_readLine_70 lk12_138 inX12_isWord seX12_isWord myX12_isWord (by decide) ⟨by decide, by decide⟩ rfl (kR15 hS0.1 ta0) (Nat.le_of_ble_eq_true rfl) rfl rfl (by decide) (by decide) (fk_X12_isWord hS0.1 (gB) (gs) ta0 (by decide) (by (try rw [c4]); first | done | with_reducible assumption | omega) (by (try rw [c16]); first | done | assumption)) ?_
                  rintro v524 cn' K' N' I519 R520 L521 ⟨rfl, rfl, rfl, rfl, rfl, rfl, h525, dj526, -⟩
                  (try rw [pk_22] at dj526)
                  rcases dj526 with ⟨p527, p528, p529, -⟩ | ⟨p530, p531, -⟩
                  · skip
                    have sr532 : srt gB gs = 3 := srt_3 (by exact om_ee8a1e2d p528) (by exact om_747cac53 p529)
                    refine q_if_eq 84 dX12_readLine_73 (by decide) (fun h533 => ?_) (fun h533 => ?_)
                    · skip
                      exfalso; exact om_3624102b p527 h533
                    · skip
                      refine tr_aload_n dX12_readLine_76 rfl ?_
                      refine q_iconst dX12_readLine_77 (by decide) ?_
                      intro v534 h535
                      refine q_callVv hE (M' := mX12_readEvent) (as := [_]) dX12_readLine_78 lk12_230 inX12_readEvent seX12_readEvent myX12_readEvent (by decide) ⟨by decide, by decide⟩ rfl (kR15 hS0.1 ta0) (Nat.le_of_ble_eq_true rfl) rfl rfl (by decide) (by decide) (fk_X12_readEvent hS0.1 (gB) (gs) (gQ) ta0 (by exact om_c518451c h535) (TxA.kp hT hS0 ta0 rfl rfl rfl (by decide +kernel) (by decide +kernel)) (fun b hb => (Option.some.inj (d2.symm.trans hb)) ▸ hM0) (by (try rw [c4]); first | done | with_reducible assumption | omega) (by (try rw [c4]); first | done | with_reducible assumption | omega) (by (try rw [c9]); first | done | with_reducible assumption | omega) (by (try rw [c13]); first | done | with_reducible assumption | omega) (by (try rw [c16]); first | done | assumption) (by (try rw [c19]); first | done | assumption) (by (try rw [c22]); first | done | assumption) (by (try rw [c26]); first | done | with_reducible assumption | omega) (fun q0 z0 => by obtain rfl := Option.some.inj ((d2).symm.trans z0); (try rw [c30]); first | done | with_reducible assumption | omega) (fun q0 z0 => by obtain rfl := Option.some.inj ((d2).symm.trans z0); (try rw [c34]); first | done | with_reducible assumption | omega) (fun q0 z0 => by obtain rfl := Option.some.inj ((d2).symm.trans z0); (try rw [c38]); first | done | with_reducible assumption | omega) (fun q0 z0 => by obtain rfl := Option.some.inj ((d2).symm.trans z0); (try rw [c42]); first | done | with_reducible assumption | omega) (fun q0 z0 => by obtain rfl := Option.some.inj ((d2).symm.trans z0); (try rw [c46]); first | done | with_reducible assumption | omega) (fun q0 z0 => by obtain rfl := Option.some.inj ((d2).symm.trans z0); (try rw [c50]); first | done | with_reducible assumption | omega) (fun q0 z0 => by obtain rfl := Option.some.inj ((d2).symm.trans z0); (try rw [c54]); first | done | with_reducible assumption | omega) (fun q0 z0 => by obtain rfl := Option.some.inj ((d2).symm.trans z0); (try rw [c58]); first | done | with_reducible assumption | omega) (by first | done | assumption) (by first | done | with_reducible assumption | omega) (by first | done | with_reducible assumption | exact om_4684038f sr532 h535) ⟨_, d2⟩) ?_
                      rintro cn' K' N' I536 R537 L538 ⟨rfl, rfl, rfl, rfl, g539, rp542, rp543, dj544, -⟩
                      have hS545 := hS0.tr g539 (by decide +kernel) (by decide +kernel)
                      have c546 : I536 a1 0 = v29 := (g539.cell ta1 (by decide +kernel)).trans c30
                      have c547 : I536 a1 1 = v33 := (g539.cell ta1 (by decide +kernel)).trans c34
                      have c548 : I536 a1 3 = v41 := (g539.cell ta1 (by decide +kernel)).trans c42
                      have c549 : I536 a1 4 = v45 := (g539.cell ta1 (by decide +kernel)).trans c46
                      have c550 : I536 a1 5 = v49 := (g539.cell ta1 (by decide +kernel)).trans c50
                      have c551 : I536 a1 6 = v53 := (g539.cell ta1 (by decide +kernel)).trans c54
                      have c552 : I536 a1 9 = v57 := (g539.cell ta1 (by decide +kernel)).trans c58
                      have hO553 : FrO 14 a1 T I0 I536 := hO0.tr (rp543 _ d2)
                      rcases dj544 with ⟨p554, p555, p556, p557, p558, p559, p560, p561, p562, p563, p564, p565, p566, p567, p568, p569, p570, gl571, rp572, rp573, -⟩ | ⟨p574, p575, p576, p577, -⟩
                      · skip
                        have hL578 := hL0.tr gl571 (by decide +kernel)
                        have p579 := p555 _ d2
                        clear p555
                        rw [c546] at p579
                        have p580 := p556 _ d2
                        clear p556
                        rw [c547] at p580
                        obtain ⟨v581, c582⟩ : ∃ v, I536 a1 2 = v := ⟨_, rfl⟩
                        have b583 := iv14_2 hS545.1 ta1 c582
                        have p584 := p557 _ d2
                        clear p557
                        rw [c582] at p584
                        have p585 := p558 _ d2
                        clear p558
                        rw [c548] at p585
                        have p586 := p559 _ d2
                        clear p559
                        rw [c549] at p586
                        have p587 := p560 _ d2
                        clear p560
                        rw [c550] at p587
                        have p588 := p561 _ d2
                        clear p561
                        rw [c551] at p588
                        have p589 := p562 _ d2
                        clear p562
                        rw [c552] at p589
                        obtain ⟨v590, c591⟩ : ∃ v, I536 a0 13 = v := ⟨_, rfl⟩
                        rw [c591] at p563
                        rw [c63] at p563
                        obtain ⟨v592, c593⟩ : ∃ v, I536 a0 9 = v := ⟨_, rfl⟩
                        have b594 := iv15_9 hS545.1 ta0 c593
                        rw [c593] at p564
                        rw [c593] at p565
                        obtain ⟨v595, c596⟩ : ∃ v, I536 a0 10 = v := ⟨_, rfl⟩
                        have b597 := iv15_10 hS545.1 ta0 c596
                        rw [c596] at p566
                        obtain ⟨v598, c599⟩ : ∃ v, I536 a0 11 = v := ⟨_, rfl⟩
                        rw [c599] at p567
                        obtain ⟨y600, c601⟩ : ∃ v, L538 a0 15 = v := ⟨_, rfl⟩
                        rw [c601] at p568
                        obtain ⟨v602, c603⟩ : ∃ v, I536 a0 12 = v := ⟨_, rfl⟩
                        rw [c603] at p569
                        obtain ⟨v604, c605⟩ : ∃ v, I536 a0 8 = v := ⟨_, rfl⟩
                        have b606 := iv15_8 hS545.1 ta0 c605
                        rw [c605] at p570
                        refine tr_goto 186 dX12_readLine_81 (by decide) ?_
                        obtain ⟨v607, c608⟩ : ∃ v, I536 a0 14 = v := ⟨_, rfl⟩
                        exact tr_vret hZ dX12_readLine_186 rfl (by decide) (by decide) ⟨rfl, rfl, rfl, rfl, rfl, hS545, (fun b hb => (Option.some.inj (d2.symm.trans hb)) ▸ ((FrM.rf (R := R0) (b := a1) (T := T)).tr (rp542 _ d2))), (fun dr hd => (Option.some.inj (d2.symm.trans hd)) ▸ hO553), (Or.inl ⟨(by first | done | with_reducible assumption | omega), (fun q0 z0 => by obtain rfl := Option.some.inj ((d2).symm.trans z0); (try rw [c546]); first | done | with_reducible assumption | omega), (fun q0 z0 => by obtain rfl := Option.some.inj ((d2).symm.trans z0); (try rw [c547]); first | done | with_reducible assumption | omega), (fun q0 z0 => by obtain rfl := Option.some.inj ((d2).symm.trans z0); (try rw [c582]); first | done | with_reducible assumption | omega), (fun q0 z0 => by obtain rfl := Option.some.inj ((d2).symm.trans z0); (try rw [c548]); first | done | with_reducible assumption | omega), (fun q0 z0 => by obtain rfl := Option.some.inj ((d2).symm.trans z0); (try rw [c549]); first | done | with_reducible assumption | omega), (fun q0 z0 => by obtain rfl := Option.some.inj ((d2).symm.trans z0); (try rw [c550]); first | done | with_reducible assumption | omega), (fun q0 z0 => by obtain rfl := Option.some.inj ((d2).symm.trans z0); (try rw [c551]); first | done | with_reducible assumption | omega), (fun q0 z0 => by obtain rfl := Option.some.inj ((d2).symm.trans z0); (try rw [c552]); first | done | with_reducible assumption | omega), (by (try rw [c591]); (try rw [c63]); first | done | with_reducible assumption | omega), (by (try rw [c593]); first | done | with_reducible assumption | omega), (by (try rw [c593]); first | done | with_reducible assumption | omega), (by (try rw [c596]); first | done | with_reducible assumption | omega), (by (try rw [c599]); first | done | with_reducible assumption | omega), (by (try rw [c601]); first | done | assumption), (by (try rw [c603]); first | done | assumption), (by (try rw [c605]); first | done | assumption), hL578, (fun b hb => (Option.some.inj (d2.symm.trans hb)) ▸ (rp572 _ d2)), rp573, trivial⟩), trivial⟩
                      · skip
                        obtain ⟨v609, c610⟩ : ∃ v, I536 a0 9 = v := ⟨_, rfl⟩
                        have b611 := iv15_9 hS545.1 ta0 c610
                        rw [c610] at p575
                        obtain ⟨v612, c613⟩ : ∃ v, I536 a0 13 = v := ⟨_, rfl⟩
                        rw [c613] at p576
                        obtain ⟨v614, c615⟩ : ∃ v, I536 a0 14 = v := ⟨_, rfl⟩
                        rw [c615] at p577
                        refine tr_goto 186 dX12_readLine_81 (by decide) ?_
                        obtain ⟨v616, c617⟩ : ∃ v, I536 a1 2 = v := ⟨_, rfl⟩
                        have b618 := iv14_2 hS545.1 ta1 c617
                        obtain ⟨v619, c620⟩ : ∃ v, I536 a0 10 = v := ⟨_, rfl⟩
                        have b621 := iv15_10 hS545.1 ta0 c620
                        obtain ⟨v622, c623⟩ : ∃ v, I536 a0 11 = v := ⟨_, rfl⟩
                        obtain ⟨y624, c625⟩ : ∃ v, L538 a0 15 = v := ⟨_, rfl⟩
                        obtain ⟨v626, c627⟩ : ∃ v, I536 a0 12 = v := ⟨_, rfl⟩
                        obtain ⟨v628, c629⟩ : ∃ v, I536 a0 8 = v := ⟨_, rfl⟩
                        have b630 := iv15_8 hS545.1 ta0 c629
                        exact tr_vret hZ dX12_readLine_186 rfl (by decide) (by decide) ⟨rfl, rfl, rfl, rfl, rfl, hS545, (fun b hb => (Option.some.inj (d2.symm.trans hb)) ▸ ((FrM.rf (R := R0) (b := a1) (T := T)).tr (rp542 _ d2))), (fun dr hd => (Option.some.inj (d2.symm.trans hd)) ▸ hO553), (Or.inr (⟨(by first | done | with_reducible assumption | omega), (by (try rw [c610]); first | done | with_reducible assumption | omega), (by (try rw [c613]); first | done | with_reducible assumption | omega), (by (try rw [c615]); first | done | with_reducible assumption | omega), trivial⟩)), trivial⟩
                  · skip
                    refine q_if_eq 84 dX12_readLine_73 (by decide) (fun h631 => ?_) (fun h631 => ?_)
                    · skip
                      refine tr_aload_n dX12_readLine_84 rfl ?_
                      refine tr_ldcS dX12_readLine_85 ld12_174 ?_
                      refine q_callVi hE (M' := mX12_isWord) (as := [_]) dX12_readLine_87 lk12_138 inX12_isWord seX12_isWord myX12_isWord (by decide) ⟨by decide, by decide⟩ rfl (kR15 hS0.1 ta0) (Nat.le_of_ble_eq_true rfl) rfl rfl (by decide) (by decide) (fk_X12_isWord hS0.1 (gB) (gs) ta0 (by decide) (by (try rw [c4]); first | done | with_reducible assumption | omega) (by (try rw [c16]); first | done | assumption)) ?_
                      rintro v637 cn' K' N' I632 R633 L634 ⟨rfl, rfl, rfl, rfl, rfl, rfl, h638, dj639, -⟩
                      (try rw [pk_4] at dj639)
                      rcases dj639 with ⟨p640, p641, p642, -⟩ | ⟨p643, p644, -⟩
                      · skip
                        have sr645 : srt gB gs = 4 := srt_4 (by exact om_ee8a1e2d p641) (by exact om_2ccd9767 p642)
                        refine q_if_eq 101 dX12_readLine_90 (by decide) (fun h646 => ?_) (fun h646 => ?_)
                        · skip
                          exfalso; exact om_3624102b p640 h646
                        · skip
                          refine tr_aload_n dX12_readLine_93 rfl ?_
                          refine q_iconst dX12_readLine_94 (by decide) ?_
                          intro v647 h648
                          refine q_callVv hE (M' := mX12_readEvent) (as := [_]) dX12_readLine_95 lk12_230 inX12_readEvent seX12_readEvent myX12_readEvent (by decide) ⟨by decide, by decide⟩ rfl (kR15 hS0.1 ta0) (Nat.le_of_ble_eq_true rfl) rfl rfl (by decide) (by decide) (fk_X12_readEvent hS0.1 (gB) (gs) (gQ) ta0 (by exact om_93068803 h648) (TxA.kp hT hS0 ta0 rfl rfl rfl (by decide +kernel) (by decide +kernel)) (fun b hb => (Option.some.inj (d2.symm.trans hb)) ▸ hM0) (by (try rw [c4]); first | done | with_reducible assumption | omega) (by (try rw [c4]); first | done | with_reducible assumption | omega) (by (try rw [c9]); first | done | with_reducible assumption | omega) (by (try rw [c13]); first | done | with_reducible assumption | omega) (by (try rw [c16]); first | done | assumption) (by (try rw [c19]); first | done | assumption) (by (try rw [c22]); first | done | assumption) (by (try rw [c26]); first | done | with_reducible assumption | omega) (fun q0 z0 => by obtain rfl := Option.some.inj ((d2).symm.trans z0); (try rw [c30]); first | done | with_reducible assumption | omega) (fun q0 z0 => by obtain rfl := Option.some.inj ((d2).symm.trans z0); (try rw [c34]); first | done | with_reducible assumption | omega) (fun q0 z0 => by obtain rfl := Option.some.inj ((d2).symm.trans z0); (try rw [c38]); first | done | with_reducible assumption | omega) (fun q0 z0 => by obtain rfl := Option.some.inj ((d2).symm.trans z0); (try rw [c42]); first | done | with_reducible assumption | omega) (fun q0 z0 => by obtain rfl := Option.some.inj ((d2).symm.trans z0); (try rw [c46]); first | done | with_reducible assumption | omega) (fun q0 z0 => by obtain rfl := Option.some.inj ((d2).symm.trans z0); (try rw [c50]); first | done | with_reducible assumption | omega) (fun q0 z0 => by obtain rfl := Option.some.inj ((d2).symm.trans z0); (try rw [c54]); first | done | with_reducible assumption | omega) (fun q0 z0 => by obtain rfl := Option.some.inj ((d2).symm.trans z0); (try rw [c58]); first | done | with_reducible assumption | omega) (by first | done | assumption) (by first | done | with_reducible assumption | omega) (by first | done | with_reducible assumption | exact om_46d5da87 sr645 h648) ⟨_, d2⟩) ?_
                          rintro cn' K' N' I649 R650 L651 ⟨rfl, rfl, rfl, rfl, g652, rp655, rp656, dj657, -⟩
                          have hS658 := hS0.tr g652 (by decide +kernel) (by decide +kernel)
                          have c659 : I649 a1 0 = v29 := (g652.cell ta1 (by decide +kernel)).trans c30
                          have c660 : I649 a1 1 = v33 := (g652.cell ta1 (by decide +kernel)).trans c34
                          have c661 : I649 a1 3 = v41 := (g652.cell ta1 (by decide +kernel)).trans c42
                          have c662 : I649 a1 4 = v45 := (g652.cell ta1 (by decide +kernel)).trans c46
                          have c663 : I649 a1 5 = v49 := (g652.cell ta1 (by decide +kernel)).trans c50
                          have c664 : I649 a1 6 = v53 := (g652.cell ta1 (by decide +kernel)).trans c54
                          have c665 : I649 a1 9 = v57 := (g652.cell ta1 (by decide +kernel)).trans c58
                          have hO666 : FrO 14 a1 T I0 I649 := hO0.tr (rp656 _ d2)
                          rcases dj657 with ⟨p667, p668, p669, p670, p671, p672, p673, p674, p675, p676, p677, p678, p679, p680, p681, p682, p683, gl684, rp685, rp686, -⟩ | ⟨p687, p688, p689, p690, -⟩
                          · skip
                            have hL691 := hL0.tr gl684 (by decide +kernel)
                            have p692 := p668 _ d2
                            clear p668
                            rw [c659] at p692
                            have p693 := p669 _ d2
                            clear p669
                            rw [c660] at p693
                            obtain ⟨v694, c695⟩ : ∃ v, I649 a1 2 = v := ⟨_, rfl⟩
                            have b696 := iv14_2 hS658.1 ta1 c695
                            have p697 := p670 _ d2
                            clear p670
                            rw [c695] at p697
                            have p698 := p671 _ d2
                            clear p671
                            rw [c661] at p698
                            have p699 := p672 _ d2
                            clear p672
                            rw [c662] at p699
                            have p700 := p673 _ d2
                            clear p673
                            rw [c663] at p700
                            have p701 := p674 _ d2
                            clear p674
                            rw [c664] at p701
                            have p702 := p675 _ d2
                            clear p675
                            rw [c665] at p702
                            obtain ⟨v703, c704⟩ : ∃ v, I649 a0 13 = v := ⟨_, rfl⟩
                            rw [c704] at p676
                            rw [c63] at p676
                            obtain ⟨v705, c706⟩ : ∃ v, I649 a0 9 = v := ⟨_, rfl⟩
                            have b707 := iv15_9 hS658.1 ta0 c706
                            rw [c706] at p677
                            rw [c706] at p678
                            obtain ⟨v708, c709⟩ : ∃ v, I649 a0 10 = v := ⟨_, rfl⟩
                            have b710 := iv15_10 hS658.1 ta0 c709
                            rw [c709] at p679
                            obtain ⟨v711, c712⟩ : ∃ v, I649 a0 11 = v := ⟨_, rfl⟩
                            rw [c712] at p680
                            obtain ⟨y713, c714⟩ : ∃ v, L651 a0 15 = v := ⟨_, rfl⟩
                            rw [c714] at p681
                            obtain ⟨v715, c716⟩ : ∃ v, I649 a0 12 = v := ⟨_, rfl⟩
                            rw [c716] at p682
                            obtain ⟨v717, c718⟩ : ∃ v, I649 a0 8 = v := ⟨_, rfl⟩
                            have b719 := iv15_8 hS658.1 ta0 c718
                            rw [c718] at p683
                            refine tr_goto 186 dX12_readLine_98 (by decide) ?_
                            obtain ⟨v720, c721⟩ : ∃ v, I649 a0 14 = v := ⟨_, rfl⟩
                            exact tr_vret hZ dX12_readLine_186 rfl (by decide) (by decide) ⟨rfl, rfl, rfl, rfl, rfl, hS658, (fun b hb => (Option.some.inj (d2.symm.trans hb)) ▸ ((FrM.rf (R := R0) (b := a1) (T := T)).tr (rp655 _ d2))), (fun dr hd => (Option.some.inj (d2.symm.trans hd)) ▸ hO666), (Or.inl ⟨(by first | done | with_reducible assumption | omega), (fun q0 z0 => by obtain rfl := Option.some.inj ((d2).symm.trans z0); (try rw [c659]); first | done | with_reducible assumption | omega), (fun q0 z0 => by obtain rfl := Option.some.inj ((d2).symm.trans z0); (try rw [c660]); first | done | with_reducible assumption | omega), (fun q0 z0 => by obtain rfl := Option.some.inj ((d2).symm.trans z0); (try rw [c695]); first | done | with_reducible assumption | omega), (fun q0 z0 => by obtain rfl := Option.some.inj ((d2).symm.trans z0); (try rw [c661]); first | done | with_reducible assumption | omega), (fun q0 z0 => by obtain rfl := Option.some.inj ((d2).symm.trans z0); (try rw [c662]); first | done | with_reducible assumption | omega), (fun q0 z0 => by obtain rfl := Option.some.inj ((d2).symm.trans z0); (try rw [c663]); first | done | with_reducible assumption | omega), (fun q0 z0 => by obtain rfl := Option.some.inj ((d2).symm.trans z0); (try rw [c664]); first | done | with_reducible assumption | omega), (fun q0 z0 => by obtain rfl := Option.some.inj ((d2).symm.trans z0); (try rw [c665]); first | done | with_reducible assumption | omega), (by (try rw [c704]); (try rw [c63]); first | done | with_reducible assumption | omega), (by (try rw [c706]); first | done | with_reducible assumption | omega), (by (try rw [c706]); first | done | with_reducible assumption | omega), (by (try rw [c709]); first | done | with_reducible assumption | omega), (by (try rw [c712]); first | done | with_reducible assumption | omega), (by (try rw [c714]); first | done | assumption), (by (try rw [c716]); first | done | assumption), (by (try rw [c718]); first | done | assumption), hL691, (fun b hb => (Option.some.inj (d2.symm.trans hb)) ▸ (rp685 _ d2)), rp686, trivial⟩), trivial⟩
                          · skip
                            obtain ⟨v722, c723⟩ : ∃ v, I649 a0 9 = v := ⟨_, rfl⟩
                            have b724 := iv15_9 hS658.1 ta0 c723
                            rw [c723] at p688
                            obtain ⟨v725, c726⟩ : ∃ v, I649 a0 13 = v := ⟨_, rfl⟩
                            rw [c726] at p689
                            obtain ⟨v727, c728⟩ : ∃ v, I649 a0 14 = v := ⟨_, rfl⟩
                            rw [c728] at p690
                            refine tr_goto 186 dX12_readLine_98 (by decide) ?_
                            obtain ⟨v729, c730⟩ : ∃ v, I649 a1 2 = v := ⟨_, rfl⟩
                            have b731 := iv14_2 hS658.1 ta1 c730
                            obtain ⟨v732, c733⟩ : ∃ v, I649 a0 10 = v := ⟨_, rfl⟩
                            have b734 := iv15_10 hS658.1 ta0 c733
                            obtain ⟨v735, c736⟩ : ∃ v, I649 a0 11 = v := ⟨_, rfl⟩
                            obtain ⟨y737, c738⟩ : ∃ v, L651 a0 15 = v := ⟨_, rfl⟩
                            obtain ⟨v739, c740⟩ : ∃ v, I649 a0 12 = v := ⟨_, rfl⟩
                            obtain ⟨v741, c742⟩ : ∃ v, I649 a0 8 = v := ⟨_, rfl⟩
                            have b743 := iv15_8 hS658.1 ta0 c742
                            exact tr_vret hZ dX12_readLine_186 rfl (by decide) (by decide) ⟨rfl, rfl, rfl, rfl, rfl, hS658, (fun b hb => (Option.some.inj (d2.symm.trans hb)) ▸ ((FrM.rf (R := R0) (b := a1) (T := T)).tr (rp655 _ d2))), (fun dr hd => (Option.some.inj (d2.symm.trans hd)) ▸ hO666), (Or.inr (⟨(by first | done | with_reducible assumption | omega), (by (try rw [c723]); first | done | with_reducible assumption | omega), (by (try rw [c726]); first | done | with_reducible assumption | omega), (by (try rw [c728]); first | done | with_reducible assumption | omega), trivial⟩)), trivial⟩
                      · skip
                        refine q_if_eq 101 dX12_readLine_90 (by decide) (fun h744 => ?_) (fun h744 => ?_)
                        · skip
                          refine tr_aload_n dX12_readLine_101 rfl ?_
                          refine tr_ldcS dX12_readLine_102 ld12_176 ?_
                          refine q_callVi hE (M' := mX12_isWord) (as := [_]) dX12_readLine_104 lk12_138 inX12_isWord seX12_isWord myX12_isWord (by decide) ⟨by decide, by decide⟩ rfl (kR15 hS0.1 ta0) (Nat.le_of_ble_eq_true rfl) rfl rfl (by decide) (by decide) (fk_X12_isWord hS0.1 (gB) (gs) ta0 (by decide) (by (try rw [c4]); first | done | with_reducible assumption | omega) (by (try rw [c16]); first | done | assumption)) ?_
                          rintro v750 cn' K' N' I745 R746 L747 ⟨rfl, rfl, rfl, rfl, rfl, rfl, h751, dj752, -⟩
                          (try rw [pk_6] at dj752)
                          rcases dj752 with ⟨p753, p754, p755, -⟩ | ⟨p756, p757, -⟩
                          · skip
                            have sr758 : srt gB gs = 5 := srt_5 (by exact om_ee8a1e2d p754) (by exact om_519e19c2 p755)
                            refine q_if_eq 117 dX12_readLine_107 (by decide) (fun h759 => ?_) (fun h759 => ?_)
                            · skip
                              exfalso; exact om_3624102b p753 h759
                            · skip
                              refine tr_aload_n dX12_readLine_110 rfl ?_
                              refine q_callVv hE (M' := mX12_readCheese) (as := []) dX12_readLine_111 lk12_233 inX12_readCheese seX12_readCheese myX12_readCheese (by decide) ⟨by decide, by decide⟩ rfl (kR15 hS0.1 ta0) (Nat.le_of_ble_eq_true rfl) rfl rfl (by decide) (by decide) (fk_X12_readCheese hS0.1 (gB) (gs) (gQ) ta0 (TxA.kp hT hS0 ta0 rfl rfl rfl (by decide +kernel) (by decide +kernel)) (fun b hb => (Option.some.inj (d2.symm.trans hb)) ▸ hM0) (by (try rw [c4]); first | done | with_reducible assumption | omega) (by (try rw [c4]); first | done | with_reducible assumption | omega) (by (try rw [c9]); first | done | with_reducible assumption | omega) (by (try rw [c13]); first | done | with_reducible assumption | omega) (by (try rw [c16]); first | done | assumption) (by (try rw [c19]); first | done | assumption) (by (try rw [c22]); first | done | assumption) (by (try rw [c26]); first | done | with_reducible assumption | omega) (fun q0 z0 => by obtain rfl := Option.some.inj ((d2).symm.trans z0); (try rw [c30]); first | done | with_reducible assumption | omega) (fun q0 z0 => by obtain rfl := Option.some.inj ((d2).symm.trans z0); (try rw [c34]); first | done | with_reducible assumption | omega) (fun q0 z0 => by obtain rfl := Option.some.inj ((d2).symm.trans z0); (try rw [c38]); first | done | with_reducible assumption | omega) (fun q0 z0 => by obtain rfl := Option.some.inj ((d2).symm.trans z0); (try rw [c42]); first | done | with_reducible assumption | omega) (fun q0 z0 => by obtain rfl := Option.some.inj ((d2).symm.trans z0); (try rw [c46]); first | done | with_reducible assumption | omega) (fun q0 z0 => by obtain rfl := Option.some.inj ((d2).symm.trans z0); (try rw [c50]); first | done | with_reducible assumption | omega) (fun q0 z0 => by obtain rfl := Option.some.inj ((d2).symm.trans z0); (try rw [c54]); first | done | with_reducible assumption | omega) (fun q0 z0 => by obtain rfl := Option.some.inj ((d2).symm.trans z0); (try rw [c58]); first | done | with_reducible assumption | omega) (by first | done | assumption) (by first | done | with_reducible assumption | omega) (by first | done | with_reducible assumption | omega) ⟨_, d2⟩) ?_
                              rintro cn' K' N' I760 R761 L762 ⟨rfl, rfl, rfl, rfl, g763, rp766, rp767, dj768, -⟩
                              have hS769 := hS0.tr g763 (by decide +kernel) (by decide +kernel)
                              have c770 : I760 a1 0 = v29 := (g763.cell ta1 (by decide +kernel)).trans c30
                              have c771 : I760 a1 1 = v33 := (g763.cell ta1 (by decide +kernel)).trans c34
                              have c772 : I760 a1 2 = v37 := (g763.cell ta1 (by decide +kernel)).trans c38
                              have c773 : I760 a1 4 = v45 := (g763.cell ta1 (by decide +kernel)).trans c46
                              have c774 : I760 a1 5 = v49 := (g763.cell ta1 (by decide +kernel)).trans c50
                              have c775 : I760 a1 6 = v53 := (g763.cell ta1 (by decide +kernel)).trans c54
                              have c776 : I760 a1 9 = v57 := (g763.cell ta1 (by decide +kernel)).trans c58
                              have hO777 : FrO 14 a1 T I0 I760 := hO0.tr (rp767 _ d2)
                              rcases dj768 with ⟨p778, p779, p780, p781, p782, p783, p784, p785, p786, p787, p788, p789, p790, p791, p792, p793, p794, gl795, rp796, rp797, -⟩ | ⟨p798, p799, p800, p801, -⟩
                              · skip
                                have hL802 := hL0.tr gl795 (by decide +kernel)
                                have p803 := p779 _ d2
                                clear p779
                                rw [c770] at p803
                                have p804 := p780 _ d2
                                clear p780
                                rw [c771] at p804
                                have p805 := p781 _ d2
                                clear p781
                                rw [c772] at p805
                                obtain ⟨v806, c807⟩ : ∃ v, I760 a1 3 = v := ⟨_, rfl⟩
                                have b808 := iv14_3 hS769.1 ta1 c807
                                have p809 := p782 _ d2
                                clear p782
                                rw [c807] at p809
                                have p810 := p783 _ d2
                                clear p783
                                rw [c773] at p810
                                have p811 := p784 _ d2
                                clear p784
                                rw [c774] at p811
                                have p812 := p785 _ d2
                                clear p785
                                rw [c775] at p812
                                have p813 := p786 _ d2
                                clear p786
                                rw [c776] at p813
                                obtain ⟨v814, c815⟩ : ∃ v, I760 a0 13 = v := ⟨_, rfl⟩
                                rw [c815] at p787
                                rw [c63] at p787
                                obtain ⟨v816, c817⟩ : ∃ v, I760 a0 9 = v := ⟨_, rfl⟩
                                have b818 := iv15_9 hS769.1 ta0 c817
                                rw [c817] at p788
                                rw [c817] at p789
                                obtain ⟨v819, c820⟩ : ∃ v, I760 a0 10 = v := ⟨_, rfl⟩
                                have b821 := iv15_10 hS769.1 ta0 c820
                                rw [c820] at p790
                                obtain ⟨v822, c823⟩ : ∃ v, I760 a0 11 = v := ⟨_, rfl⟩
                                rw [c823] at p791
                                obtain ⟨y824, c825⟩ : ∃ v, L762 a0 15 = v := ⟨_, rfl⟩
                                rw [c825] at p792
                                obtain ⟨v826, c827⟩ : ∃ v, I760 a0 12 = v := ⟨_, rfl⟩
                                rw [c827] at p793
                                obtain ⟨v828, c829⟩ : ∃ v, I760 a0 8 = v := ⟨_, rfl⟩
                                have b830 := iv15_8 hS769.1 ta0 c829
                                rw [c829] at p794
                                refine tr_goto 186 dX12_readLine_114 (by decide) ?_
                                obtain ⟨v831, c832⟩ : ∃ v, I760 a0 14 = v := ⟨_, rfl⟩
                                exact tr_vret hZ dX12_readLine_186 rfl (by decide) (by decide) ⟨rfl, rfl, rfl, rfl, rfl, hS769, (fun b hb => (Option.some.inj (d2.symm.trans hb)) ▸ ((FrM.rf (R := R0) (b := a1) (T := T)).tr (rp766 _ d2))), (fun dr hd => (Option.some.inj (d2.symm.trans hd)) ▸ hO777), (Or.inl ⟨(by first | done | with_reducible assumption | omega), (fun q0 z0 => by obtain rfl := Option.some.inj ((d2).symm.trans z0); (try rw [c770]); first | done | with_reducible assumption | omega), (fun q0 z0 => by obtain rfl := Option.some.inj ((d2).symm.trans z0); (try rw [c771]); first | done | with_reducible assumption | omega), (fun q0 z0 => by obtain rfl := Option.some.inj ((d2).symm.trans z0); (try rw [c772]); first | done | with_reducible assumption | omega), (fun q0 z0 => by obtain rfl := Option.some.inj ((d2).symm.trans z0); (try rw [c807]); first | done | with_reducible assumption | omega), (fun q0 z0 => by obtain rfl := Option.some.inj ((d2).symm.trans z0); (try rw [c773]); first | done | with_reducible assumption | omega), (fun q0 z0 => by obtain rfl := Option.some.inj ((d2).symm.trans z0); (try rw [c774]); first | done | with_reducible assumption | omega), (fun q0 z0 => by obtain rfl := Option.some.inj ((d2).symm.trans z0); (try rw [c775]); first | done | with_reducible assumption | omega), (fun q0 z0 => by obtain rfl := Option.some.inj ((d2).symm.trans z0); (try rw [c776]); first | done | with_reducible assumption | omega), (by (try rw [c815]); (try rw [c63]); first | done | with_reducible assumption | omega), (by (try rw [c817]); first | done | with_reducible assumption | omega), (by (try rw [c817]); first | done | with_reducible assumption | omega), (by (try rw [c820]); first | done | with_reducible assumption | omega), (by (try rw [c823]); first | done | with_reducible assumption | omega), (by (try rw [c825]); first | done | assumption), (by (try rw [c827]); first | done | assumption), (by (try rw [c829]); first | done | assumption), hL802, (fun b hb => (Option.some.inj (d2.symm.trans hb)) ▸ (rp796 _ d2)), rp797, trivial⟩), trivial⟩
                              · skip
                                obtain ⟨v833, c834⟩ : ∃ v, I760 a0 9 = v := ⟨_, rfl⟩
                                have b835 := iv15_9 hS769.1 ta0 c834
                                rw [c834] at p799
                                obtain ⟨v836, c837⟩ : ∃ v, I760 a0 13 = v := ⟨_, rfl⟩
                                rw [c837] at p800
                                obtain ⟨v838, c839⟩ : ∃ v, I760 a0 14 = v := ⟨_, rfl⟩
                                rw [c839] at p801
                                refine tr_goto 186 dX12_readLine_114 (by decide) ?_
                                obtain ⟨v840, c841⟩ : ∃ v, I760 a1 3 = v := ⟨_, rfl⟩
                                have b842 := iv14_3 hS769.1 ta1 c841
                                obtain ⟨v843, c844⟩ : ∃ v, I760 a0 10 = v := ⟨_, rfl⟩
                                have b845 := iv15_10 hS769.1 ta0 c844
                                obtain ⟨v846, c847⟩ : ∃ v, I760 a0 11 = v := ⟨_, rfl⟩
                                obtain ⟨y848, c849⟩ : ∃ v, L762 a0 15 = v := ⟨_, rfl⟩
                                obtain ⟨v850, c851⟩ : ∃ v, I760 a0 12 = v := ⟨_, rfl⟩
                                obtain ⟨v852, c853⟩ : ∃ v, I760 a0 8 = v := ⟨_, rfl⟩
                                have b854 := iv15_8 hS769.1 ta0 c853
                                exact tr_vret hZ dX12_readLine_186 rfl (by decide) (by decide) ⟨rfl, rfl, rfl, rfl, rfl, hS769, (fun b hb => (Option.some.inj (d2.symm.trans hb)) ▸ ((FrM.rf (R := R0) (b := a1) (T := T)).tr (rp766 _ d2))), (fun dr hd => (Option.some.inj (d2.symm.trans hd)) ▸ hO777), (Or.inr (⟨(by first | done | with_reducible assumption | omega), (by (try rw [c834]); first | done | with_reducible assumption | omega), (by (try rw [c837]); first | done | with_reducible assumption | omega), (by (try rw [c839]); first | done | with_reducible assumption | omega), trivial⟩)), trivial⟩
                          · skip
                            refine q_if_eq 117 dX12_readLine_107 (by decide) (fun h855 => ?_) (fun h855 => ?_)
                            · skip
                              refine tr_aload_n dX12_readLine_117 rfl ?_
                              refine tr_ldcS dX12_readLine_118 ld12_178 ?_
                              refine q_callVi hE (M' := mX12_isWord) (as := [_]) dX12_readLine_120 lk12_138 inX12_isWord seX12_isWord myX12_isWord (by decide) ⟨by decide, by decide⟩ rfl (kR15 hS0.1 ta0) (Nat.le_of_ble_eq_true rfl) rfl rfl (by decide) (by decide) (fk_X12_isWord hS0.1 (gB) (gs) ta0 (by decide) (by (try rw [c4]); first | done | with_reducible assumption | omega) (by (try rw [c16]); first | done | assumption)) ?_
                              rintro v861 cn' K' N' I856 R857 L858 ⟨rfl, rfl, rfl, rfl, rfl, rfl, h862, dj863, -⟩
                              (try rw [pk_0] at dj863)
                              rcases dj863 with ⟨p864, p865, p866, -⟩ | ⟨p867, p868, -⟩
                              · skip
                                have sr869 : srt gB gs = 6 := srt_6 (by exact om_ee8a1e2d p865) (by exact om_7c4563db p866)
                                refine q_if_eq 133 dX12_readLine_123 (by decide) (fun h870 => ?_) (fun h870 => ?_)
                                · skip
                                  exfalso; exact om_3624102b p864 h870
                                · skip
                                  refine tr_aload_n dX12_readLine_126 rfl ?_
                                  refine q_callVv hE (M' := mX12_readAlmanac) (as := []) dX12_readLine_127 lk12_236 inX12_readAlmanac seX12_readAlmanac myX12_readAlmanac (by decide) ⟨by decide, by decide⟩ rfl (kR15 hS0.1 ta0) (Nat.le_of_ble_eq_true rfl) rfl rfl (by decide) (by decide) (fk_X12_readAlmanac hS0.1 (gB) (gs) (gQ) ta0 (TxA.kp hT hS0 ta0 rfl rfl rfl (by decide +kernel) (by decide +kernel)) (fun b hb => (Option.some.inj (d2.symm.trans hb)) ▸ hM0) (by (try rw [c4]); first | done | with_reducible assumption | omega) (by (try rw [c4]); first | done | with_reducible assumption | omega) (by (try rw [c9]); first | done | with_reducible assumption | omega) (by (try rw [c13]); first | done | with_reducible assumption | omega) (by (try rw [c16]); first | done | assumption) (by (try rw [c19]); first | done | assumption) (by (try rw [c22]); first | done | assumption) (by (try rw [c26]); first | done | with_reducible assumption | omega) (fun q0 z0 => by obtain rfl := Option.some.inj ((d2).symm.trans z0); (try rw [c30]); first | done | with_reducible assumption | omega) (fun q0 z0 => by obtain rfl := Option.some.inj ((d2).symm.trans z0); (try rw [c34]); first | done | with_reducible assumption | omega) (fun q0 z0 => by obtain rfl := Option.some.inj ((d2).symm.trans z0); (try rw [c38]); first | done | with_reducible assumption | omega) (fun q0 z0 => by obtain rfl := Option.some.inj ((d2).symm.trans z0); (try rw [c42]); first | done | with_reducible assumption | omega) (fun q0 z0 => by obtain rfl := Option.some.inj ((d2).symm.trans z0); (try rw [c46]); first | done | with_reducible assumption | omega) (fun q0 z0 => by obtain rfl := Option.some.inj ((d2).symm.trans z0); (try rw [c50]); first | done | with_reducible assumption | omega) (fun q0 z0 => by obtain rfl := Option.some.inj ((d2).symm.trans z0); (try rw [c54]); first | done | with_reducible assumption | omega) (fun q0 z0 => by obtain rfl := Option.some.inj ((d2).symm.trans z0); (try rw [c58]); first | done | with_reducible assumption | omega) (by first | done | assumption) (by first | done | with_reducible assumption | omega) (by first | done | with_reducible assumption | omega) ⟨_, d2⟩) ?_
                                  rintro cn' K' N' I871 R872 L873 ⟨rfl, rfl, rfl, rfl, g874, rp877, rp878, dj879, -⟩
                                  have hS880 := hS0.tr g874 (by decide +kernel) (by decide +kernel)
                                  have c881 : I871 a1 0 = v29 := (g874.cell ta1 (by decide +kernel)).trans c30
                                  have c882 : I871 a1 1 = v33 := (g874.cell ta1 (by decide +kernel)).trans c34
                                  have c883 : I871 a1 2 = v37 := (g874.cell ta1 (by decide +kernel)).trans c38
                                  have c884 : I871 a1 3 = v41 := (g874.cell ta1 (by decide +kernel)).trans c42
                                  have c885 : I871 a1 4 = v45 := (g874.cell ta1 (by decide +kernel)).trans c46
                                  have c886 : I871 a1 5 = v49 := (g874.cell ta1 (by decide +kernel)).trans c50
                                  have c887 : I871 a1 6 = v53 := (g874.cell ta1 (by decide +kernel)).trans c54
                                  have hO888 : FrO 14 a1 T I0 I871 := hO0.tr (rp878 _ d2)
                                  rcases dj879 with ⟨p889, p890, p891, p892, p893, p894, p895, p896, p897, p898, p899, p900, p901, p902, p903, p904, p905, gl906, rp907, rp908, -⟩ | ⟨p909, p910, p911, p912, -⟩
                                  · skip
                                    have hL913 := hL0.tr gl906 (by decide +kernel)
                                    have p914 := p890 _ d2
                                    clear p890
                                    rw [c881] at p914
                                    have p915 := p891 _ d2
                                    clear p891
                                    rw [c882] at p915
                                    have p916 := p892 _ d2
                                    clear p892
                                    rw [c883] at p916
                                    have p917 := p893 _ d2
                                    clear p893
                                    rw [c884] at p917
                                    have p918 := p894 _ d2
                                    clear p894
                                    rw [c885] at p918
                                    have p919 := p895 _ d2
                                    clear p895
                                    rw [c886] at p919
                                    have p920 := p896 _ d2
                                    clear p896
                                    rw [c887] at p920
                                    obtain ⟨v921, c922⟩ : ∃ v, I871 a1 9 = v := ⟨_, rfl⟩
                                    have b923 := iv14_9 hS880.1 ta1 c922
                                    have p924 := p897 _ d2
                                    clear p897
                                    rw [c922] at p924
                                    obtain ⟨v925, c926⟩ : ∃ v, I871 a0 13 = v := ⟨_, rfl⟩
                                    rw [c926] at p898
                                    rw [c63] at p898
                                    obtain ⟨v927, c928⟩ : ∃ v, I871 a0 9 = v := ⟨_, rfl⟩
                                    have b929 := iv15_9 hS880.1 ta0 c928
                                    rw [c928] at p899
                                    rw [c928] at p900
                                    obtain ⟨v930, c931⟩ : ∃ v, I871 a0 10 = v := ⟨_, rfl⟩
                                    have b932 := iv15_10 hS880.1 ta0 c931
                                    rw [c931] at p901
                                    obtain ⟨v933, c934⟩ : ∃ v, I871 a0 11 = v := ⟨_, rfl⟩
                                    rw [c934] at p902
                                    obtain ⟨y935, c936⟩ : ∃ v, L873 a0 15 = v := ⟨_, rfl⟩
                                    rw [c936] at p903
                                    obtain ⟨v937, c938⟩ : ∃ v, I871 a0 12 = v := ⟨_, rfl⟩
                                    rw [c938] at p904
                                    obtain ⟨v939, c940⟩ : ∃ v, I871 a0 8 = v := ⟨_, rfl⟩
                                    have b941 := iv15_8 hS880.1 ta0 c940
                                    rw [c940] at p905
                                    refine tr_goto 186 dX12_readLine_130 (by decide) ?_
                                    obtain ⟨v942, c943⟩ : ∃ v, I871 a0 14 = v := ⟨_, rfl⟩
                                    exact tr_vret hZ dX12_readLine_186 rfl (by decide) (by decide) ⟨rfl, rfl, rfl, rfl, rfl, hS880, (fun b hb => (Option.some.inj (d2.symm.trans hb)) ▸ ((FrM.rf (R := R0) (b := a1) (T := T)).tr (rp877 _ d2))), (fun dr hd => (Option.some.inj (d2.symm.trans hd)) ▸ hO888), (Or.inl ⟨(by first | done | with_reducible assumption | omega), (fun q0 z0 => by obtain rfl := Option.some.inj ((d2).symm.trans z0); (try rw [c881]); first | done | with_reducible assumption | omega), (fun q0 z0 => by obtain rfl := Option.some.inj ((d2).symm.trans z0); (try rw [c882]); first | done | with_reducible assumption | omega), (fun q0 z0 => by obtain rfl := Option.some.inj ((d2).symm.trans z0); (try rw [c883]); first | done | with_reducible assumption | omega), (fun q0 z0 => by obtain rfl := Option.some.inj ((d2).symm.trans z0); (try rw [c884]); first | done | with_reducible assumption | omega), (fun q0 z0 => by obtain rfl := Option.some.inj ((d2).symm.trans z0); (try rw [c885]); first | done | with_reducible assumption | omega), (fun q0 z0 => by obtain rfl := Option.some.inj ((d2).symm.trans z0); (try rw [c886]); first | done | with_reducible assumption | omega), (fun q0 z0 => by obtain rfl := Option.some.inj ((d2).symm.trans z0); (try rw [c887]); first | done | with_reducible assumption | omega), (fun q0 z0 => by obtain rfl := Option.some.inj ((d2).symm.trans z0); (try rw [c922]); first | done | with_reducible assumption | omega), (by (try rw [c926]); (try rw [c63]); first | done | with_reducible assumption | omega), (by (try rw [c928]); first | done | with_reducible assumption | omega), (by (try rw [c928]); first | done | with_reducible assumption | omega), (by (try rw [c931]); first | done | with_reducible assumption | omega), (by (try rw [c934]); first | done | with_reducible assumption | omega), (by (try rw [c936]); first | done | assumption), (by (try rw [c938]); first | done | assumption), (by (try rw [c940]); first | done | assumption), hL913, (fun b hb => (Option.some.inj (d2.symm.trans hb)) ▸ (rp907 _ d2)), rp908, trivial⟩), trivial⟩
                                  · skip
                                    obtain ⟨v944, c945⟩ : ∃ v, I871 a0 9 = v := ⟨_, rfl⟩
                                    have b946 := iv15_9 hS880.1 ta0 c945
                                    rw [c945] at p910
                                    obtain ⟨v947, c948⟩ : ∃ v, I871 a0 13 = v := ⟨_, rfl⟩
                                    rw [c948] at p911
                                    obtain ⟨v949, c950⟩ : ∃ v, I871 a0 14 = v := ⟨_, rfl⟩
                                    rw [c950] at p912
                                    refine tr_goto 186 dX12_readLine_130 (by decide) ?_
                                    obtain ⟨v951, c952⟩ : ∃ v, I871 a1 9 = v := ⟨_, rfl⟩
                                    have b953 := iv14_9 hS880.1 ta1 c952
                                    obtain ⟨v954, c955⟩ : ∃ v, I871 a0 10 = v := ⟨_, rfl⟩
                                    have b956 := iv15_10 hS880.1 ta0 c955
                                    obtain ⟨v957, c958⟩ : ∃ v, I871 a0 11 = v := ⟨_, rfl⟩
                                    obtain ⟨y959, c960⟩ : ∃ v, L873 a0 15 = v := ⟨_, rfl⟩
                                    obtain ⟨v961, c962⟩ : ∃ v, I871 a0 12 = v := ⟨_, rfl⟩
                                    obtain ⟨v963, c964⟩ : ∃ v, I871 a0 8 = v := ⟨_, rfl⟩
                                    have b965 := iv15_8 hS880.1 ta0 c964
                                    exact tr_vret hZ dX12_readLine_186 rfl (by decide) (by decide) ⟨rfl, rfl, rfl, rfl, rfl, hS880, (fun b hb => (Option.some.inj (d2.symm.trans hb)) ▸ ((FrM.rf (R := R0) (b := a1) (T := T)).tr (rp877 _ d2))), (fun dr hd => (Option.some.inj (d2.symm.trans hd)) ▸ hO888), (Or.inr (⟨(by first | done | with_reducible assumption | omega), (by (try rw [c945]); first | done | with_reducible assumption | omega), (by (try rw [c948]); first | done | with_reducible assumption | omega), (by (try rw [c950]); first | done | with_reducible assumption | omega), trivial⟩)), trivial⟩
                              · skip
                                refine q_if_eq 133 dX12_readLine_123 (by decide) (fun h966 => ?_) (fun h966 => ?_)
                                · skip
                                  refine tr_aload_n dX12_readLine_133 rfl ?_
                                  refine tr_ldcS dX12_readLine_134 ld12_180 ?_
                                  refine q_callVi hE (M' := mX12_isWord) (as := [_]) dX12_readLine_136 lk12_138 inX12_isWord seX12_isWord myX12_isWord (by decide) ⟨by decide, by decide⟩ rfl (kR15 hS0.1 ta0) (Nat.le_of_ble_eq_true rfl) rfl rfl (by decide) (by decide) (fk_X12_isWord hS0.1 (gB) (gs) ta0 (by decide) (by (try rw [c4]); first | done | with_reducible assumption | omega) (by (try rw [c16]); first | done | assumption)) ?_
                                  rintro v972 cn' K' N' I967 R968 L969 ⟨rfl, rfl, rfl, rfl, rfl, rfl, h973, dj974, -⟩
                                  (try rw [pk_26] at dj974)
                                  rcases dj974 with ⟨p975, p976, p977, -⟩ | ⟨p978, p979, -⟩
                                  · skip
                                    have sr980 : srt gB gs = 7 := srt_7 (by exact om_ee8a1e2d p976) (by exact om_f0efd43f p977)
                                    refine q_if_eq 149 dX12_readLine_139 (by decide) (fun h981 => ?_) (fun h981 => ?_)
                                    · skip
                                      exfalso; exact om_3624102b p975 h981
                                    · skip
                                      refine tr_aload_n dX12_readLine_142 rfl ?_
                                      refine q_callVv hE (M' := mX12_readTurner) (as := []) dX12_readLine_143 lk12_239 inX12_readTurner seX12_readTurner myX12_readTurner (by decide) ⟨by decide, by decide⟩ rfl (kR15 hS0.1 ta0) (Nat.le_of_ble_eq_true rfl) rfl rfl (by decide) (by decide) (fk_X12_readTurner hS0.1 (gB) (gs) (gQ) ta0 (TxA.kp hT hS0 ta0 rfl rfl rfl (by decide +kernel) (by decide +kernel)) (fun b hb => (Option.some.inj (d2.symm.trans hb)) ▸ hM0) (by (try rw [c4]); first | done | with_reducible assumption | omega) (by (try rw [c4]); first | done | with_reducible assumption | omega) (by (try rw [c9]); first | done | with_reducible assumption | omega) (by (try rw [c13]); first | done | with_reducible assumption | omega) (by (try rw [c16]); first | done | assumption) (by (try rw [c19]); first | done | assumption) (by (try rw [c22]); first | done | assumption) (by (try rw [c26]); first | done | with_reducible assumption | omega) (fun q0 z0 => by obtain rfl := Option.some.inj ((d2).symm.trans z0); (try rw [c30]); first | done | with_reducible assumption | omega) (fun q0 z0 => by obtain rfl := Option.some.inj ((d2).symm.trans z0); (try rw [c34]); first | done | with_reducible assumption | omega) (fun q0 z0 => by obtain rfl := Option.some.inj ((d2).symm.trans z0); (try rw [c38]); first | done | with_reducible assumption | omega) (fun q0 z0 => by obtain rfl := Option.some.inj ((d2).symm.trans z0); (try rw [c42]); first | done | with_reducible assumption | omega) (fun q0 z0 => by obtain rfl := Option.some.inj ((d2).symm.trans z0); (try rw [c46]); first | done | with_reducible assumption | omega) (fun q0 z0 => by obtain rfl := Option.some.inj ((d2).symm.trans z0); (try rw [c50]); first | done | with_reducible assumption | omega) (fun q0 z0 => by obtain rfl := Option.some.inj ((d2).symm.trans z0); (try rw [c54]); first | done | with_reducible assumption | omega) (fun q0 z0 => by obtain rfl := Option.some.inj ((d2).symm.trans z0); (try rw [c58]); first | done | with_reducible assumption | omega) (by first | done | assumption) (by first | done | with_reducible assumption | omega) (by first | done | with_reducible assumption | omega) ⟨_, d2⟩) ?_
                                      rintro cn' K' N' I982 R983 L984 ⟨rfl, rfl, rfl, rfl, g985, rp988, rp989, dj990, -⟩
                                      have hS991 := hS0.tr g985 (by decide +kernel) (by decide +kernel)
                                      have c992 : I982 a1 0 = v29 := (g985.cell ta1 (by decide +kernel)).trans c30
                                      have c993 : I982 a1 1 = v33 := (g985.cell ta1 (by decide +kernel)).trans c34
                                      have c994 : I982 a1 2 = v37 := (g985.cell ta1 (by decide +kernel)).trans c38
                                      have c995 : I982 a1 3 = v41 := (g985.cell ta1 (by decide +kernel)).trans c42
                                      have c996 : I982 a1 5 = v49 := (g985.cell ta1 (by decide +kernel)).trans c50
                                      have c997 : I982 a1 6 = v53 := (g985.cell ta1 (by decide +kernel)).trans c54
                                      have c998 : I982 a1 9 = v57 := (g985.cell ta1 (by decide +kernel)).trans c58
                                      have hO999 : FrO 14 a1 T I0 I982 := hO0.tr (rp989 _ d2)
                                      rcases dj990 with ⟨p1000, p1001, p1002, p1003, p1004, p1005, p1006, p1007, p1008, p1009, p1010, p1011, p1012, p1013, p1014, p1015, p1016, gl1017, rp1018, rp1019, -⟩ | ⟨p1020, p1021, p1022, p1023, -⟩
                                      · skip
                                        have hL1024 := hL0.tr gl1017 (by decide +kernel)
                                        have p1025 := p1001 _ d2
                                        clear p1001
                                        rw [c992] at p1025
                                        have p1026 := p1002 _ d2
                                        clear p1002
                                        rw [c993] at p1026
                                        have p1027 := p1003 _ d2
                                        clear p1003
                                        rw [c994] at p1027
                                        have p1028 := p1004 _ d2
                                        clear p1004
                                        rw [c995] at p1028
                                        obtain ⟨v1029, c1030⟩ : ∃ v, I982 a1 4 = v := ⟨_, rfl⟩
                                        have b1031 := iv14_4 hS991.1 ta1 c1030
                                        have p1032 := p1005 _ d2
                                        clear p1005
                                        rw [c1030] at p1032
                                        have p1033 := p1006 _ d2
                                        clear p1006
                                        rw [c996] at p1033
                                        have p1034 := p1007 _ d2
                                        clear p1007
                                        rw [c997] at p1034
                                        have p1035 := p1008 _ d2
                                        clear p1008
                                        rw [c998] at p1035
                                        obtain ⟨v1036, c1037⟩ : ∃ v, I982 a0 13 = v := ⟨_, rfl⟩
                                        rw [c1037] at p1009
                                        rw [c63] at p1009
                                        obtain ⟨v1038, c1039⟩ : ∃ v, I982 a0 9 = v := ⟨_, rfl⟩
                                        have b1040 := iv15_9 hS991.1 ta0 c1039
                                        rw [c1039] at p1010
                                        rw [c1039] at p1011
                                        obtain ⟨v1041, c1042⟩ : ∃ v, I982 a0 10 = v := ⟨_, rfl⟩
                                        have b1043 := iv15_10 hS991.1 ta0 c1042
                                        rw [c1042] at p1012
                                        obtain ⟨v1044, c1045⟩ : ∃ v, I982 a0 11 = v := ⟨_, rfl⟩
                                        rw [c1045] at p1013
                                        obtain ⟨y1046, c1047⟩ : ∃ v, L984 a0 15 = v := ⟨_, rfl⟩
                                        rw [c1047] at p1014
                                        obtain ⟨v1048, c1049⟩ : ∃ v, I982 a0 12 = v := ⟨_, rfl⟩
                                        rw [c1049] at p1015
                                        obtain ⟨v1050, c1051⟩ : ∃ v, I982 a0 8 = v := ⟨_, rfl⟩
                                        have b1052 := iv15_8 hS991.1 ta0 c1051
                                        rw [c1051] at p1016
                                        refine tr_goto 186 dX12_readLine_146 (by decide) ?_
                                        obtain ⟨v1053, c1054⟩ : ∃ v, I982 a0 14 = v := ⟨_, rfl⟩
                                        exact tr_vret hZ dX12_readLine_186 rfl (by decide) (by decide) ⟨rfl, rfl, rfl, rfl, rfl, hS991, (fun b hb => (Option.some.inj (d2.symm.trans hb)) ▸ ((FrM.rf (R := R0) (b := a1) (T := T)).tr (rp988 _ d2))), (fun dr hd => (Option.some.inj (d2.symm.trans hd)) ▸ hO999), (Or.inl ⟨(by first | done | with_reducible assumption | omega), (fun q0 z0 => by obtain rfl := Option.some.inj ((d2).symm.trans z0); (try rw [c992]); first | done | with_reducible assumption | omega), (fun q0 z0 => by obtain rfl := Option.some.inj ((d2).symm.trans z0); (try rw [c993]); first | done | with_reducible assumption | omega), (fun q0 z0 => by obtain rfl := Option.some.inj ((d2).symm.trans z0); (try rw [c994]); first | done | with_reducible assumption | omega), (fun q0 z0 => by obtain rfl := Option.some.inj ((d2).symm.trans z0); (try rw [c995]); first | done | with_reducible assumption | omega), (fun q0 z0 => by obtain rfl := Option.some.inj ((d2).symm.trans z0); (try rw [c1030]); first | done | with_reducible assumption | omega), (fun q0 z0 => by obtain rfl := Option.some.inj ((d2).symm.trans z0); (try rw [c996]); first | done | with_reducible assumption | omega), (fun q0 z0 => by obtain rfl := Option.some.inj ((d2).symm.trans z0); (try rw [c997]); first | done | with_reducible assumption | omega), (fun q0 z0 => by obtain rfl := Option.some.inj ((d2).symm.trans z0); (try rw [c998]); first | done | with_reducible assumption | omega), (by (try rw [c1037]); (try rw [c63]); first | done | with_reducible assumption | omega), (by (try rw [c1039]); first | done | with_reducible assumption | omega), (by (try rw [c1039]); first | done | with_reducible assumption | omega), (by (try rw [c1042]); first | done | with_reducible assumption | omega), (by (try rw [c1045]); first | done | with_reducible assumption | omega), (by (try rw [c1047]); first | done | assumption), (by (try rw [c1049]); first | done | assumption), (by (try rw [c1051]); first | done | assumption), hL1024, (fun b hb => (Option.some.inj (d2.symm.trans hb)) ▸ (rp1018 _ d2)), rp1019, trivial⟩), trivial⟩
                                      · skip
                                        obtain ⟨v1055, c1056⟩ : ∃ v, I982 a0 9 = v := ⟨_, rfl⟩
                                        have b1057 := iv15_9 hS991.1 ta0 c1056
                                        rw [c1056] at p1021
                                        obtain ⟨v1058, c1059⟩ : ∃ v, I982 a0 13 = v := ⟨_, rfl⟩
                                        rw [c1059] at p1022
                                        obtain ⟨v1060, c1061⟩ : ∃ v, I982 a0 14 = v := ⟨_, rfl⟩
                                        rw [c1061] at p1023
                                        refine tr_goto 186 dX12_readLine_146 (by decide) ?_
                                        obtain ⟨v1062, c1063⟩ : ∃ v, I982 a1 4 = v := ⟨_, rfl⟩
                                        have b1064 := iv14_4 hS991.1 ta1 c1063
                                        obtain ⟨v1065, c1066⟩ : ∃ v, I982 a0 10 = v := ⟨_, rfl⟩
                                        have b1067 := iv15_10 hS991.1 ta0 c1066
                                        obtain ⟨v1068, c1069⟩ : ∃ v, I982 a0 11 = v := ⟨_, rfl⟩
                                        obtain ⟨y1070, c1071⟩ : ∃ v, L984 a0 15 = v := ⟨_, rfl⟩
                                        obtain ⟨v1072, c1073⟩ : ∃ v, I982 a0 12 = v := ⟨_, rfl⟩
                                        obtain ⟨v1074, c1075⟩ : ∃ v, I982 a0 8 = v := ⟨_, rfl⟩
                                        have b1076 := iv15_8 hS991.1 ta0 c1075
                                        exact tr_vret hZ dX12_readLine_186 rfl (by decide) (by decide) ⟨rfl, rfl, rfl, rfl, rfl, hS991, (fun b hb => (Option.some.inj (d2.symm.trans hb)) ▸ ((FrM.rf (R := R0) (b := a1) (T := T)).tr (rp988 _ d2))), (fun dr hd => (Option.some.inj (d2.symm.trans hd)) ▸ hO999), (Or.inr (⟨(by first | done | with_reducible assumption | omega), (by (try rw [c1056]); first | done | with_reducible assumption | omega), (by (try rw [c1059]); first | done | with_reducible assumption | omega), (by (try rw [c1061]); first | done | with_reducible assumption | omega), trivial⟩)), trivial⟩
                                  · skip
                                    refine q_if_eq 149 dX12_readLine_139 (by decide) (fun h1077 => ?_) (fun h1077 => ?_)
                                    · skip
                                      refine tr_aload_n dX12_readLine_149 rfl ?_
                                      refine tr_ldcS dX12_readLine_150 ld12_182 ?_
                                      refine q_callVi hE (M' := mX12_isWord) (as := [_]) dX12_readLine_152 lk12_138 inX12_isWord seX12_isWord myX12_isWord (by decide) ⟨by decide, by decide⟩ rfl (kR15 hS0.1 ta0) (Nat.le_of_ble_eq_true rfl) rfl rfl (by decide) (by decide) (fk_X12_isWord hS0.1 (gB) (gs) ta0 (by decide) (by (try rw [c4]); first | done | with_reducible assumption | omega) (by (try rw [c16]); first | done | assumption)) ?_
                                      rintro v1083 cn' K' N' I1078 R1079 L1080 ⟨rfl, rfl, rfl, rfl, rfl, rfl, h1084, dj1085, -⟩
                                      (try rw [pk_5] at dj1085)
                                      rcases dj1085 with ⟨p1086, p1087, p1088, -⟩ | ⟨p1089, p1090, -⟩
                                      · skip
                                        have sr1091 : srt gB gs = 8 := srt_8 (by exact om_ee8a1e2d p1087) (by exact om_0a66535f p1088)
                                        refine q_if_eq 165 dX12_readLine_155 (by decide) (fun h1092 => ?_) (fun h1092 => ?_)
                                        · skip
                                          exfalso; exact om_3624102b p1086 h1092
                                        · skip
                                          refine tr_aload_n dX12_readLine_158 rfl ?_
                                          refine q_callVv hE (M' := mX12_readCall) (as := []) dX12_readLine_159 lk12_242 inX12_readCall seX12_readCall myX12_readCall (by decide) ⟨by decide, by decide⟩ rfl (kR15 hS0.1 ta0) (Nat.le_of_ble_eq_true rfl) rfl rfl (by decide) (by decide) (fk_X12_readCall hS0.1 (gB) (gs) (gQ) ta0 (TxA.kp hT hS0 ta0 rfl rfl rfl (by decide +kernel) (by decide +kernel)) (fun b hb => (Option.some.inj (d2.symm.trans hb)) ▸ hM0) (by (try rw [c4]); first | done | with_reducible assumption | omega) (by (try rw [c4]); first | done | with_reducible assumption | omega) (by (try rw [c9]); first | done | with_reducible assumption | omega) (by (try rw [c13]); first | done | with_reducible assumption | omega) (by (try rw [c16]); first | done | assumption) (by (try rw [c19]); first | done | assumption) (by (try rw [c22]); first | done | assumption) (by (try rw [c26]); first | done | with_reducible assumption | omega) (fun q0 z0 => by obtain rfl := Option.some.inj ((d2).symm.trans z0); (try rw [c30]); first | done | with_reducible assumption | omega) (fun q0 z0 => by obtain rfl := Option.some.inj ((d2).symm.trans z0); (try rw [c34]); first | done | with_reducible assumption | omega) (fun q0 z0 => by obtain rfl := Option.some.inj ((d2).symm.trans z0); (try rw [c38]); first | done | with_reducible assumption | omega) (fun q0 z0 => by obtain rfl := Option.some.inj ((d2).symm.trans z0); (try rw [c42]); first | done | with_reducible assumption | omega) (fun q0 z0 => by obtain rfl := Option.some.inj ((d2).symm.trans z0); (try rw [c46]); first | done | with_reducible assumption | omega) (fun q0 z0 => by obtain rfl := Option.some.inj ((d2).symm.trans z0); (try rw [c50]); first | done | with_reducible assumption | omega) (fun q0 z0 => by obtain rfl := Option.some.inj ((d2).symm.trans z0); (try rw [c54]); first | done | with_reducible assumption | omega) (fun q0 z0 => by obtain rfl := Option.some.inj ((d2).symm.trans z0); (try rw [c58]); first | done | with_reducible assumption | omega) (by first | done | assumption) (by first | done | with_reducible assumption | omega) (by first | done | with_reducible assumption | omega) ⟨_, d2⟩) ?_
                                          rintro cn' K' N' I1093 R1094 L1095 ⟨rfl, rfl, rfl, rfl, g1096, rp1099, rp1100, dj1101, -⟩
                                          have hS1102 := hS0.tr g1096 (by decide +kernel) (by decide +kernel)
                                          have c1103 : I1093 a1 0 = v29 := (g1096.cell ta1 (by decide +kernel)).trans c30
                                          have c1104 : I1093 a1 1 = v33 := (g1096.cell ta1 (by decide +kernel)).trans c34
                                          have c1105 : I1093 a1 2 = v37 := (g1096.cell ta1 (by decide +kernel)).trans c38
                                          have c1106 : I1093 a1 3 = v41 := (g1096.cell ta1 (by decide +kernel)).trans c42
                                          have c1107 : I1093 a1 4 = v45 := (g1096.cell ta1 (by decide +kernel)).trans c46
                                          have c1108 : I1093 a1 6 = v53 := (g1096.cell ta1 (by decide +kernel)).trans c54
                                          have c1109 : I1093 a1 9 = v57 := (g1096.cell ta1 (by decide +kernel)).trans c58
                                          have hO1110 : FrO 14 a1 T I0 I1093 := hO0.tr (rp1100 _ d2)
                                          rcases dj1101 with ⟨p1111, p1112, p1113, p1114, p1115, p1116, p1117, p1118, p1119, p1120, p1121, p1122, p1123, p1124, p1125, p1126, p1127, gl1128, rp1129, rp1130, -⟩ | ⟨p1131, p1132, p1133, p1134, -⟩
                                          · skip
                                            have hL1135 := hL0.tr gl1128 (by decide +kernel)
                                            have p1136 := p1112 _ d2
                                            clear p1112
                                            rw [c1103] at p1136
                                            have p1137 := p1113 _ d2
                                            clear p1113
                                            rw [c1104] at p1137
                                            have p1138 := p1114 _ d2
                                            clear p1114
                                            rw [c1105] at p1138
                                            have p1139 := p1115 _ d2
                                            clear p1115
                                            rw [c1106] at p1139
                                            have p1140 := p1116 _ d2
                                            clear p1116
                                            rw [c1107] at p1140
                                            obtain ⟨v1141, c1142⟩ : ∃ v, I1093 a1 5 = v := ⟨_, rfl⟩
                                            have b1143 := iv14_5 hS1102.1 ta1 c1142
                                            have p1144 := p1117 _ d2
                                            clear p1117
                                            rw [c1142] at p1144
                                            have p1145 := p1118 _ d2
                                            clear p1118
                                            rw [c1108] at p1145
                                            have p1146 := p1119 _ d2
                                            clear p1119
                                            rw [c1109] at p1146
                                            obtain ⟨v1147, c1148⟩ : ∃ v, I1093 a0 13 = v := ⟨_, rfl⟩
                                            rw [c1148] at p1120
                                            rw [c63] at p1120
                                            obtain ⟨v1149, c1150⟩ : ∃ v, I1093 a0 9 = v := ⟨_, rfl⟩
                                            have b1151 := iv15_9 hS1102.1 ta0 c1150
                                            rw [c1150] at p1121
                                            rw [c1150] at p1122
                                            obtain ⟨v1152, c1153⟩ : ∃ v, I1093 a0 10 = v := ⟨_, rfl⟩
                                            have b1154 := iv15_10 hS1102.1 ta0 c1153
                                            rw [c1153] at p1123
                                            obtain ⟨v1155, c1156⟩ : ∃ v, I1093 a0 11 = v := ⟨_, rfl⟩
                                            rw [c1156] at p1124
                                            obtain ⟨y1157, c1158⟩ : ∃ v, L1095 a0 15 = v := ⟨_, rfl⟩
                                            rw [c1158] at p1125
                                            obtain ⟨v1159, c1160⟩ : ∃ v, I1093 a0 12 = v := ⟨_, rfl⟩
                                            rw [c1160] at p1126
                                            obtain ⟨v1161, c1162⟩ : ∃ v, I1093 a0 8 = v := ⟨_, rfl⟩
                                            have b1163 := iv15_8 hS1102.1 ta0 c1162
                                            rw [c1162] at p1127
                                            refine tr_goto 186 dX12_readLine_162 (by decide) ?_
                                            obtain ⟨v1164, c1165⟩ : ∃ v, I1093 a0 14 = v := ⟨_, rfl⟩
                                            exact tr_vret hZ dX12_readLine_186 rfl (by decide) (by decide) ⟨rfl, rfl, rfl, rfl, rfl, hS1102, (fun b hb => (Option.some.inj (d2.symm.trans hb)) ▸ ((FrM.rf (R := R0) (b := a1) (T := T)).tr (rp1099 _ d2))), (fun dr hd => (Option.some.inj (d2.symm.trans hd)) ▸ hO1110), (Or.inl ⟨(by first | done | with_reducible assumption | omega), (fun q0 z0 => by obtain rfl := Option.some.inj ((d2).symm.trans z0); (try rw [c1103]); first | done | with_reducible assumption | omega), (fun q0 z0 => by obtain rfl := Option.some.inj ((d2).symm.trans z0); (try rw [c1104]); first | done | with_reducible assumption | omega), (fun q0 z0 => by obtain rfl := Option.some.inj ((d2).symm.trans z0); (try rw [c1105]); first | done | with_reducible assumption | omega), (fun q0 z0 => by obtain rfl := Option.some.inj ((d2).symm.trans z0); (try rw [c1106]); first | done | with_reducible assumption | omega), (fun q0 z0 => by obtain rfl := Option.some.inj ((d2).symm.trans z0); (try rw [c1107]); first | done | with_reducible assumption | omega), (fun q0 z0 => by obtain rfl := Option.some.inj ((d2).symm.trans z0); (try rw [c1142]); first | done | with_reducible assumption | omega), (fun q0 z0 => by obtain rfl := Option.some.inj ((d2).symm.trans z0); (try rw [c1108]); first | done | with_reducible assumption | omega), (fun q0 z0 => by obtain rfl := Option.some.inj ((d2).symm.trans z0); (try rw [c1109]); first | done | with_reducible assumption | omega), (by (try rw [c1148]); (try rw [c63]); first | done | with_reducible assumption | omega), (by (try rw [c1150]); first | done | with_reducible assumption | omega), (by (try rw [c1150]); first | done | with_reducible assumption | omega), (by (try rw [c1153]); first | done | with_reducible assumption | omega), (by (try rw [c1156]); first | done | with_reducible assumption | omega), (by (try rw [c1158]); first | done | assumption), (by (try rw [c1160]); first | done | assumption), (by (try rw [c1162]); first | done | assumption), hL1135, (fun b hb => (Option.some.inj (d2.symm.trans hb)) ▸ (rp1129 _ d2)), rp1130, trivial⟩), trivial⟩
                                          · skip
                                            obtain ⟨v1166, c1167⟩ : ∃ v, I1093 a0 9 = v := ⟨_, rfl⟩
                                            have b1168 := iv15_9 hS1102.1 ta0 c1167
                                            rw [c1167] at p1132
                                            obtain ⟨v1169, c1170⟩ : ∃ v, I1093 a0 13 = v := ⟨_, rfl⟩
                                            rw [c1170] at p1133
                                            obtain ⟨v1171, c1172⟩ : ∃ v, I1093 a0 14 = v := ⟨_, rfl⟩
                                            rw [c1172] at p1134
                                            refine tr_goto 186 dX12_readLine_162 (by decide) ?_
                                            obtain ⟨v1173, c1174⟩ : ∃ v, I1093 a1 5 = v := ⟨_, rfl⟩
                                            have b1175 := iv14_5 hS1102.1 ta1 c1174
                                            obtain ⟨v1176, c1177⟩ : ∃ v, I1093 a0 10 = v := ⟨_, rfl⟩
                                            have b1178 := iv15_10 hS1102.1 ta0 c1177
                                            obtain ⟨v1179, c1180⟩ : ∃ v, I1093 a0 11 = v := ⟨_, rfl⟩
                                            obtain ⟨y1181, c1182⟩ : ∃ v, L1095 a0 15 = v := ⟨_, rfl⟩
                                            obtain ⟨v1183, c1184⟩ : ∃ v, I1093 a0 12 = v := ⟨_, rfl⟩
                                            obtain ⟨v1185, c1186⟩ : ∃ v, I1093 a0 8 = v := ⟨_, rfl⟩
                                            have b1187 := iv15_8 hS1102.1 ta0 c1186
                                            exact tr_vret hZ dX12_readLine_186 rfl (by decide) (by decide) ⟨rfl, rfl, rfl, rfl, rfl, hS1102, (fun b hb => (Option.some.inj (d2.symm.trans hb)) ▸ ((FrM.rf (R := R0) (b := a1) (T := T)).tr (rp1099 _ d2))), (fun dr hd => (Option.some.inj (d2.symm.trans hd)) ▸ hO1110), (Or.inr (⟨(by first | done | with_reducible assumption | omega), (by (try rw [c1167]); first | done | with_reducible assumption | omega), (by (try rw [c1170]); first | done | with_reducible assumption | omega), (by (try rw [c1172]); first | done | with_reducible assumption | omega), trivial⟩)), trivial⟩
                                      · skip
                                        refine q_if_eq 165 dX12_readLine_155 (by decide) (fun h1188 => ?_) (fun h1188 => ?_)
                                        · skip
                                          refine tr_aload_n dX12_readLine_165 rfl ?_
                                          refine tr_ldcS dX12_readLine_166 ld12_184 ?_
                                          refine q_callVi hE (M' := mX12_isWord) (as := [_]) dX12_readLine_168 lk12_138 inX12_isWord seX12_isWord myX12_isWord (by decide) ⟨by decide, by decide⟩ rfl (kR15 hS0.1 ta0) (Nat.le_of_ble_eq_true rfl) rfl rfl (by decide) (by decide) (fk_X12_isWord hS0.1 (gB) (gs) ta0 (by decide) (by (try rw [c4]); first | done | with_reducible assumption | omega) (by (try rw [c16]); first | done | assumption)) ?_
                                          rintro v1194 cn' K' N' I1189 R1190 L1191 ⟨rfl, rfl, rfl, rfl, rfl, rfl, h1195, dj1196, -⟩
                                          (try rw [pk_23] at dj1196)
                                          rcases dj1196 with ⟨p1197, p1198, p1199, -⟩ | ⟨p1200, p1201, -⟩
                                          · skip
                                            have sr1202 : srt gB gs = 9 := srt_9 (by exact om_ee8a1e2d p1198) (by exact om_ec60c104 p1199)
                                            refine q_if_eq 181 dX12_readLine_171 (by decide) (fun h1203 => ?_) (fun h1203 => ?_)
                                            · skip
                                              exfalso; exact om_3624102b p1197 h1203
                                            · skip
                                              refine tr_aload_n dX12_readLine_174 rfl ?_
                                              refine q_callVv hE (M' := mX12_readSlice) (as := []) dX12_readLine_175 lk12_245 inX12_readSlice seX12_readSlice myX12_readSlice (by decide) ⟨by decide, by decide⟩ rfl (kR15 hS0.1 ta0) (Nat.le_of_ble_eq_true rfl) rfl rfl (by decide) (by decide) (fk_X12_readSlice hS0.1 (gB) (gs) (gQ) ta0 (TxA.kp hT hS0 ta0 rfl rfl rfl (by decide +kernel) (by decide +kernel)) (fun b hb => (Option.some.inj (d2.symm.trans hb)) ▸ hM0) (by (try rw [c4]); first | done | with_reducible assumption | omega) (by (try rw [c4]); first | done | with_reducible assumption | omega) (by (try rw [c9]); first | done | with_reducible assumption | omega) (by (try rw [c13]); first | done | with_reducible assumption | omega) (by (try rw [c16]); first | done | assumption) (by (try rw [c19]); first | done | assumption) (by (try rw [c22]); first | done | assumption) (by (try rw [c26]); first | done | with_reducible assumption | omega) (fun q0 z0 => by obtain rfl := Option.some.inj ((d2).symm.trans z0); (try rw [c30]); first | done | with_reducible assumption | omega) (fun q0 z0 => by obtain rfl := Option.some.inj ((d2).symm.trans z0); (try rw [c34]); first | done | with_reducible assumption | omega) (fun q0 z0 => by obtain rfl := Option.some.inj ((d2).symm.trans z0); (try rw [c38]); first | done | with_reducible assumption | omega) (fun q0 z0 => by obtain rfl := Option.some.inj ((d2).symm.trans z0); (try rw [c42]); first | done | with_reducible assumption | omega) (fun q0 z0 => by obtain rfl := Option.some.inj ((d2).symm.trans z0); (try rw [c46]); first | done | with_reducible assumption | omega) (fun q0 z0 => by obtain rfl := Option.some.inj ((d2).symm.trans z0); (try rw [c50]); first | done | with_reducible assumption | omega) (fun q0 z0 => by obtain rfl := Option.some.inj ((d2).symm.trans z0); (try rw [c54]); first | done | with_reducible assumption | omega) (fun q0 z0 => by obtain rfl := Option.some.inj ((d2).symm.trans z0); (try rw [c58]); first | done | with_reducible assumption | omega) (by first | done | assumption) (by first | done | with_reducible assumption | omega) (by first | done | with_reducible assumption | omega) ⟨_, d2⟩) ?_
                                              rintro cn' K' N' I1204 R1205 L1206 ⟨rfl, rfl, rfl, rfl, g1207, rp1210, rp1211, dj1212, -⟩
                                              have hS1213 := hS0.tr g1207 (by decide +kernel) (by decide +kernel)
                                              have c1214 : I1204 a1 0 = v29 := (g1207.cell ta1 (by decide +kernel)).trans c30
                                              have c1215 : I1204 a1 1 = v33 := (g1207.cell ta1 (by decide +kernel)).trans c34
                                              have c1216 : I1204 a1 2 = v37 := (g1207.cell ta1 (by decide +kernel)).trans c38
                                              have c1217 : I1204 a1 3 = v41 := (g1207.cell ta1 (by decide +kernel)).trans c42
                                              have c1218 : I1204 a1 4 = v45 := (g1207.cell ta1 (by decide +kernel)).trans c46
                                              have c1219 : I1204 a1 5 = v49 := (g1207.cell ta1 (by decide +kernel)).trans c50
                                              have c1220 : I1204 a1 9 = v57 := (g1207.cell ta1 (by decide +kernel)).trans c58
                                              have hO1221 : FrO 14 a1 T I0 I1204 := hO0.tr (rp1211 _ d2)
                                              rcases dj1212 with ⟨p1222, p1223, p1224, p1225, p1226, p1227, p1228, p1229, p1230, p1231, p1232, p1233, p1234, p1235, p1236, p1237, p1238, gl1239, rp1240, rp1241, -⟩ | ⟨p1242, p1243, p1244, p1245, -⟩
                                              · skip
                                                have hL1246 := hL0.tr gl1239 (by decide +kernel)
                                                have p1247 := p1223 _ d2
                                                clear p1223
                                                rw [c1214] at p1247
                                                have p1248 := p1224 _ d2
                                                clear p1224
                                                rw [c1215] at p1248
                                                have p1249 := p1225 _ d2
                                                clear p1225
                                                rw [c1216] at p1249
                                                have p1250 := p1226 _ d2
                                                clear p1226
                                                rw [c1217] at p1250
                                                have p1251 := p1227 _ d2
                                                clear p1227
                                                rw [c1218] at p1251
                                                have p1252 := p1228 _ d2
                                                clear p1228
                                                rw [c1219] at p1252
                                                obtain ⟨v1253, c1254⟩ : ∃ v, I1204 a1 6 = v := ⟨_, rfl⟩
                                                have b1255 := iv14_6 hS1213.1 ta1 c1254
                                                have p1256 := p1229 _ d2
                                                clear p1229
                                                rw [c1254] at p1256
                                                have p1257 := p1230 _ d2
                                                clear p1230
                                                rw [c1220] at p1257
                                                obtain ⟨v1258, c1259⟩ : ∃ v, I1204 a0 13 = v := ⟨_, rfl⟩
                                                rw [c1259] at p1231
                                                rw [c63] at p1231
                                                obtain ⟨v1260, c1261⟩ : ∃ v, I1204 a0 9 = v := ⟨_, rfl⟩
                                                have b1262 := iv15_9 hS1213.1 ta0 c1261
                                                rw [c1261] at p1232
                                                rw [c1261] at p1233
                                                obtain ⟨v1263, c1264⟩ : ∃ v, I1204 a0 10 = v := ⟨_, rfl⟩
                                                have b1265 := iv15_10 hS1213.1 ta0 c1264
                                                rw [c1264] at p1234
                                                obtain ⟨v1266, c1267⟩ : ∃ v, I1204 a0 11 = v := ⟨_, rfl⟩
                                                rw [c1267] at p1235
                                                obtain ⟨y1268, c1269⟩ : ∃ v, L1206 a0 15 = v := ⟨_, rfl⟩
                                                rw [c1269] at p1236
                                                obtain ⟨v1270, c1271⟩ : ∃ v, I1204 a0 12 = v := ⟨_, rfl⟩
                                                rw [c1271] at p1237
                                                obtain ⟨v1272, c1273⟩ : ∃ v, I1204 a0 8 = v := ⟨_, rfl⟩
                                                have b1274 := iv15_8 hS1213.1 ta0 c1273
                                                rw [c1273] at p1238
                                                refine tr_goto 186 dX12_readLine_178 (by decide) ?_
                                                obtain ⟨v1275, c1276⟩ : ∃ v, I1204 a0 14 = v := ⟨_, rfl⟩
                                                exact tr_vret hZ dX12_readLine_186 rfl (by decide) (by decide) ⟨rfl, rfl, rfl, rfl, rfl, hS1213, (fun b hb => (Option.some.inj (d2.symm.trans hb)) ▸ ((FrM.rf (R := R0) (b := a1) (T := T)).tr (rp1210 _ d2))), (fun dr hd => (Option.some.inj (d2.symm.trans hd)) ▸ hO1221), (Or.inl ⟨(by first | done | with_reducible assumption | omega), (fun q0 z0 => by obtain rfl := Option.some.inj ((d2).symm.trans z0); (try rw [c1214]); first | done | with_reducible assumption | omega), (fun q0 z0 => by obtain rfl := Option.some.inj ((d2).symm.trans z0); (try rw [c1215]); first | done | with_reducible assumption | omega), (fun q0 z0 => by obtain rfl := Option.some.inj ((d2).symm.trans z0); (try rw [c1216]); first | done | with_reducible assumption | omega), (fun q0 z0 => by obtain rfl := Option.some.inj ((d2).symm.trans z0); (try rw [c1217]); first | done | with_reducible assumption | omega), (fun q0 z0 => by obtain rfl := Option.some.inj ((d2).symm.trans z0); (try rw [c1218]); first | done | with_reducible assumption | omega), (fun q0 z0 => by obtain rfl := Option.some.inj ((d2).symm.trans z0); (try rw [c1219]); first | done | with_reducible assumption | omega), (fun q0 z0 => by obtain rfl := Option.some.inj ((d2).symm.trans z0); (try rw [c1254]); first | done | with_reducible assumption | omega), (fun q0 z0 => by obtain rfl := Option.some.inj ((d2).symm.trans z0); (try rw [c1220]); first | done | with_reducible assumption | omega), (by (try rw [c1259]); (try rw [c63]); first | done | with_reducible assumption | omega), (by (try rw [c1261]); first | done | with_reducible assumption | omega), (by (try rw [c1261]); first | done | with_reducible assumption | omega), (by (try rw [c1264]); first | done | with_reducible assumption | omega), (by (try rw [c1267]); first | done | with_reducible assumption | omega), (by (try rw [c1269]); first | done | assumption), (by (try rw [c1271]); first | done | assumption), (by (try rw [c1273]); first | done | assumption), hL1246, (fun b hb => (Option.some.inj (d2.symm.trans hb)) ▸ (rp1240 _ d2)), rp1241, trivial⟩), trivial⟩
                                              · skip
                                                obtain ⟨v1277, c1278⟩ : ∃ v, I1204 a0 9 = v := ⟨_, rfl⟩
                                                have b1279 := iv15_9 hS1213.1 ta0 c1278
                                                rw [c1278] at p1243
                                                obtain ⟨v1280, c1281⟩ : ∃ v, I1204 a0 13 = v := ⟨_, rfl⟩
                                                rw [c1281] at p1244
                                                obtain ⟨v1282, c1283⟩ : ∃ v, I1204 a0 14 = v := ⟨_, rfl⟩
                                                rw [c1283] at p1245
                                                refine tr_goto 186 dX12_readLine_178 (by decide) ?_
                                                obtain ⟨v1284, c1285⟩ : ∃ v, I1204 a1 6 = v := ⟨_, rfl⟩
                                                have b1286 := iv14_6 hS1213.1 ta1 c1285
                                                obtain ⟨v1287, c1288⟩ : ∃ v, I1204 a0 10 = v := ⟨_, rfl⟩
                                                have b1289 := iv15_10 hS1213.1 ta0 c1288
                                                obtain ⟨v1290, c1291⟩ : ∃ v, I1204 a0 11 = v := ⟨_, rfl⟩
                                                obtain ⟨y1292, c1293⟩ : ∃ v, L1206 a0 15 = v := ⟨_, rfl⟩
                                                obtain ⟨v1294, c1295⟩ : ∃ v, I1204 a0 12 = v := ⟨_, rfl⟩
                                                obtain ⟨v1296, c1297⟩ : ∃ v, I1204 a0 8 = v := ⟨_, rfl⟩
                                                have b1298 := iv15_8 hS1213.1 ta0 c1297
                                                exact tr_vret hZ dX12_readLine_186 rfl (by decide) (by decide) ⟨rfl, rfl, rfl, rfl, rfl, hS1213, (fun b hb => (Option.some.inj (d2.symm.trans hb)) ▸ ((FrM.rf (R := R0) (b := a1) (T := T)).tr (rp1210 _ d2))), (fun dr hd => (Option.some.inj (d2.symm.trans hd)) ▸ hO1221), (Or.inr (⟨(by first | done | with_reducible assumption | omega), (by (try rw [c1278]); first | done | with_reducible assumption | omega), (by (try rw [c1281]); first | done | with_reducible assumption | omega), (by (try rw [c1283]); first | done | with_reducible assumption | omega), trivial⟩)), trivial⟩
                                          · skip
                                            refine q_if_eq 181 dX12_readLine_171 (by decide) (fun h1299 => ?_) (fun h1299 => ?_)
                                            · skip
                                              have sr1300 : srt gB gs = -1 := srt_nw p192 p305 p418 p531 p644 p757 p868 p979 p1090 p1201 p76
                                              obtain ⟨sr1300a, sr1300b⟩ := lnF_no (Q := gQ) sr1300
                                              refine tr_aload_n dX12_readLine_181 rfl ?_
                                              refine q_iconst dX12_readLine_182 (by decide) ?_
                                              intro v1301 h1302
                                              refine q_callVv hE (M' := mX12_flaw) (as := [_]) dX12_readLine_183 lk12_145 inX12_flaw seX12_flaw myX12_flaw (by decide) ⟨by decide, by decide⟩ rfl (kR15 hS0.1 ta0) (Nat.le_of_ble_eq_true rfl) rfl rfl (by decide) (by decide) (fk_X12_flaw hS0.1  ta0 (by exact om_95922198 h1302) (by (try rw [c4]); first | done | with_reducible assumption | exact om_df98ac7c pre0 pre1 b5.2 b5.1 p6)) ?_
                                              rintro cn' K' N' I1303 R1304 L1305 ⟨rfl, rfl, rfl, rfl, rfl, g1306, p1309, p1310, p1311, -⟩
                                              have hM1312 : NmM I1303 R0 L0 a1 gQ := NmM.kpS hM0 g1306 hS0.1 ta1 (by decide +kernel) (by decide +kernel)
                                              have hS1313 := hS0.tr g1306 (by decide +kernel) (by decide +kernel)
                                              have c1314 : I1303 a0 10 = v8 := (g1306.cell ta0 (by decide +kernel)).trans c9
                                              have c1315 : I1303 a0 11 = v12 := (g1306.cell ta0 (by decide +kernel)).trans c13
                                              have c1316 : I1303 a0 12 = v18 := (g1306.cell ta0 (by decide +kernel)).trans c19
                                              have c1317 : I1303 a0 8 = v21 := (g1306.cell ta0 (by decide +kernel)).trans c22
                                              have c1318 : I1303 a1 0 = v29 := (g1306.cell ta1 (by decide +kernel)).trans c30
                                              have c1319 : I1303 a1 1 = v33 := (g1306.cell ta1 (by decide +kernel)).trans c34
                                              have c1320 : I1303 a1 2 = v37 := (g1306.cell ta1 (by decide +kernel)).trans c38
                                              have c1321 : I1303 a1 3 = v41 := (g1306.cell ta1 (by decide +kernel)).trans c42
                                              have c1322 : I1303 a1 4 = v45 := (g1306.cell ta1 (by decide +kernel)).trans c46
                                              have c1323 : I1303 a1 5 = v49 := (g1306.cell ta1 (by decide +kernel)).trans c50
                                              have c1324 : I1303 a1 6 = v53 := (g1306.cell ta1 (by decide +kernel)).trans c54
                                              have c1325 : I1303 a1 9 = v57 := (g1306.cell ta1 (by decide +kernel)).trans c58
                                              have hO1326 : FrO 14 a1 T I0 I1303 := hO0.st g1306 (by decide +kernel)
                                              obtain ⟨v1327, c1328⟩ : ∃ v, I1303 a0 9 = v := ⟨_, rfl⟩
                                              have b1329 := iv15_9 hS1313.1 ta0 c1328
                                              rw [c1328] at p1309
                                              obtain ⟨v1330, c1331⟩ : ∃ v, I1303 a0 13 = v := ⟨_, rfl⟩
                                              rw [c1331] at p1310
                                              obtain ⟨v1332, c1333⟩ : ∃ v, I1303 a0 14 = v := ⟨_, rfl⟩
                                              rw [c1333] at p1311
                                              rw [c9] at p1311
                                              exact tr_vret hZ dX12_readLine_186 rfl (by decide) (by decide) ⟨rfl, rfl, rfl, rfl, rfl, hS1313, (fun b hb => (Option.some.inj (d2.symm.trans hb)) ▸ ((FrM.rf (R := R0) (b := a1) (T := T)).st g1306 (by decide +kernel))), (fun dr hd => (Option.some.inj (d2.symm.trans hd)) ▸ hO1326), (Or.inr (⟨(by first | done | with_reducible assumption | exact om_7fac24c5 sr1300a), (by (try rw [c1328]); first | done | with_reducible assumption | omega), (by (try rw [c1331]); first | done | with_reducible assumption | exact om_6150db85 sr1300a h1302 p1310), (by (try rw [c1333]); first | done | with_reducible assumption | exact om_8d7ca2fb p11 sr1300b p1311), trivial⟩)), trivial⟩
                                            · skip
                                              exfalso; exact om_3a97d4a5 p1200 h1299
                                        · skip
                                          exfalso; exact om_3a97d4a5 p1089 h1188
                                    · skip
                                      exfalso; exact om_3a97d4a5 p978 h1077
                                · skip
                                  exfalso; exact om_3a97d4a5 p867 h966
                            · skip
                              exfalso; exact om_3a97d4a5 p756 h855
                        · skip
                          exfalso; exact om_3a97d4a5 p643 h744
                    · skip
                      exfalso; exact om_3a97d4a5 p530 h631
                · skip
                  exfalso; exact om_3a97d4a5 p417 h518
            · skip
              exfalso; exact om_3a97d4a5 p304 h405
        · skip
          exfalso; exact om_3a97d4a5 p191 h292
    · skip
      exfalso; exact om_3a97d4a5 p75 h179
def wik_X12_readAll : List Nat := [896, 897, 898, 899, 900, 901, 902, 903, 904, 905, 968, 969, 970, 971, 972, 973, 974, 3455, 3519, 3583, 3647, 3711, 3775, 3839, 3903, 3967, 4031, 4095, 4159, 4223, 4287, 4351, 4415, 4479, 4543, 4607, 4671, 4799, 4863]
def wrk_X12_readAll : List Nat := []
def wlk_X12_readAll : List Nat := [975, 4735]
set_option maxHeartbeats 4000000 in
theorem fk_X12_readAll {l : Launch} {T : Nat → Nat} {cn : Nat} {K N : Nat → Nat} {I0 : cz_I} {R0 : cz_R} {L0 : cz_L} (hW0 : Wf T cn K N I0 R0 0) (gB : cz_B) {a0 : Nat} (ta0 : T a0 = 15) (hT : ∀ t, R0 a0 5 = some t → Tx I0 t gB) (hN : ∀ b, R0 a0 4 = some b → NmM I0 R0 L0 b Q00) (pre0 : (I0 a0 9).toInt = (tkM gB 0)) (pre1 : (I0 a0 9).toInt ≤ 4) (pre2 : (I0 a0 10).toInt = (tkS gB 0)) (pre3 : (I0 a0 11).toInt = (tkG gB 0)) (pre4 : (AtW ((tkK gB 0)) ((L0 a0 15).toInt) ((tkW gB 0)))) (pre5 : (AtV ((tkK gB 0)) ((I0 a0 12).toInt) ((tkV gB 0)))) (pre6 : (AtN ((tkK gB 0)) ((I0 a0 8).toInt) ((tkN gB 0)))) (pre7 : (I0 a0 7).toInt = (gB.2)) (pre8 : ∀ b1, R0 a0 4 = some b1 → (I0 b1 0).toInt = (Q00 0)) (pre9 : ∀ b1, R0 a0 4 = some b1 → (I0 b1 1).toInt = (Q00 1)) (pre10 : ∀ b1, R0 a0 4 = some b1 → (I0 b1 2).toInt = (Q00 2)) (pre11 : ∀ b1, R0 a0 4 = some b1 → (I0 b1 3).toInt = (Q00 3)) (pre12 : ∀ b1, R0 a0 4 = some b1 → (I0 b1 4).toInt = (Q00 4)) (pre13 : ∀ b1, R0 a0 4 = some b1 → (I0 b1 5).toInt = (Q00 5)) (pre14 : ∀ b1, R0 a0 4 = some b1 → (I0 b1 6).toInt = (Q00 6)) (pre15 : ∀ b1, R0 a0 4 = some b1 → (I0 b1 9).toInt = (Q00 8)) (nn4 : ∃ b, R0 a0 4 = some b) : ConE l mX12_readAll [.ref a0] cn K N I0 R0 L0 (ca_v (fun cn' K' N' I' R' L' => cn = cn' ∧ K = K' ∧ N = N' ∧ R0 = R' ∧ St T cn K N 0 wik_X12_readAll wrk_X12_readAll I0 R0 I' R0 ∧ (∀ b, R0 a0 4 = some b → FrM R0 b T I0 I') ∧ (∀ dr, R0 a0 4 = some dr → FrO 14 dr T I0 I') ∧ ((((lsF gB 901 0 Q00) = 0) ∧ ((I' a0 13).toInt = (I0 a0 13).toInt) ∧ (∀ b1, R0 a0 4 = some b1 → (I' b1 3).toInt = (lsC gB 901 0 Q00)) ∧ ((I' a0 9).toInt ≤ 4) ∧ (∀ b1, R0 a0 4 = some b1 → (I' b1 0).toInt ≥ 1) ∧ (∀ b1, R0 a0 4 = some b1 → (I' b1 0).toInt = (lsA0 gB 901 0 Q00)) ∧ (∀ b1, R0 a0 4 = some b1 → (I' b1 5).toInt = (lsA5 gB 901 0 Q00)) ∧ (∀ b1, R0 a0 4 = some b1 → (I' b1 2).toInt = (lsA2 gB 901 0 Q00)) ∧ (∀ b1, R0 a0 4 = some b1 → (I' b1 1).toInt = (lsA1 gB 901 0 Q00)) ∧ (∀ b1, R0 a0 4 = some b1 → (I' b1 3).toInt = (lsA3 gB 901 0 Q00)) ∧ (∀ b1, R0 a0 4 = some b1 → (I' b1 4).toInt = (lsA4 gB 901 0 Q00)) ∧ (∀ b1, R0 a0 4 = some b1 → (I' b1 6).toInt = (lsA6 gB 901 0 Q00)) ∧ LgS T wlk_X12_readAll L0 L' ∧ (∀ b, R0 a0 4 = some b → (∀ j, I0 b j = 0) → AlM I' R0 b (cnt gB) (lsE gB 901 0 Q00 E00)) ∧ True) ∨ (((lsF gB 901 0 Q00) ≠ 0) ∧ ((I' a0 9).toInt = 5) ∧ ((I' a0 13).toInt = (lsF gB 901 0 Q00)) ∧ ((I' a0 14).toInt = (lsP gB 901 0 Q00)) ∧ True)) ∧ True)) := by
  refine ConE.of (by decide +kernel) rfl (Nat.le_of_ble_eq_true rfl) rfl (fun X hX hZ hE => ?_)
  subst hX
  have hS0 : St T cn K N 0 wik_X12_readAll wrk_X12_readAll I0 R0 I0 R0 := St.rf0 hW0
  have hL0 : LgS T wlk_X12_readAll L0 L0 := LgS.rf0
  obtain ⟨a1, d2⟩ := nn4
  have ta1 : T a1 = 14 := hW0.rsN ta0 rfl d2
  obtain ⟨v3, c4⟩ : ∃ v, I0 a0 9 = v := ⟨_, rfl⟩
  have b5 := iv15_9 hS0.1 ta0 c4
  have p6 := pre0
  rw [c4] at p6
  have p7 := pre1
  rw [c4] at p7
  obtain ⟨v8, c9⟩ : ∃ v, I0 a0 10 = v := ⟨_, rfl⟩
  have b10 := iv15_10 hS0.1 ta0 c9
  have p11 := pre2
  rw [c9] at p11
  obtain ⟨v12, c13⟩ : ∃ v, I0 a0 11 = v := ⟨_, rfl⟩
  have p14 := pre3
  rw [c13] at p14
  obtain ⟨y15, c16⟩ : ∃ v, L0 a0 15 = v := ⟨_, rfl⟩
  have p17 := pre4
  rw [c16] at p17
  obtain ⟨v18, c19⟩ : ∃ v, I0 a0 12 = v := ⟨_, rfl⟩
  have p20 := pre5
  rw [c19] at p20
  obtain ⟨v21, c22⟩ : ∃ v, I0 a0 8 = v := ⟨_, rfl⟩
  have b23 := iv15_8 hS0.1 ta0 c22
  have p24 := pre6
  rw [c22] at p24
  obtain ⟨v25, c26⟩ : ∃ v, I0 a0 7 = v := ⟨_, rfl⟩
  have b27 := iv15_7 hW0 ta0 c26
  have p28 := pre7
  rw [c26] at p28
  obtain ⟨v29, c30⟩ : ∃ v, I0 a1 0 = v := ⟨_, rfl⟩
  have b31 := iv14_0 hS0.1 ta1 c30
  have p32 := pre8 _ d2
  rw [c30] at p32
  obtain ⟨v33, c34⟩ : ∃ v, I0 a1 1 = v := ⟨_, rfl⟩
  have b35 := iv14_1 hS0.1 ta1 c34
  have p36 := pre9 _ d2
  rw [c34] at p36
  obtain ⟨v37, c38⟩ : ∃ v, I0 a1 2 = v := ⟨_, rfl⟩
  have b39 := iv14_2 hS0.1 ta1 c38
  have p40 := pre10 _ d2
  rw [c38] at p40
  obtain ⟨v41, c42⟩ : ∃ v, I0 a1 3 = v := ⟨_, rfl⟩
  have b43 := iv14_3 hS0.1 ta1 c42
  have p44 := pre11 _ d2
  rw [c42] at p44
  obtain ⟨v45, c46⟩ : ∃ v, I0 a1 4 = v := ⟨_, rfl⟩
  have b47 := iv14_4 hS0.1 ta1 c46
  have p48 := pre12 _ d2
  rw [c46] at p48
  obtain ⟨v49, c50⟩ : ∃ v, I0 a1 5 = v := ⟨_, rfl⟩
  have b51 := iv14_5 hS0.1 ta1 c50
  have p52 := pre13 _ d2
  rw [c50] at p52
  obtain ⟨v53, c54⟩ : ∃ v, I0 a1 6 = v := ⟨_, rfl⟩
  have b55 := iv14_6 hS0.1 ta1 c54
  have p56 := pre14 _ d2
  rw [c54] at p56
  obtain ⟨v57, c58⟩ : ∃ v, I0 a1 9 = v := ⟨_, rfl⟩
  have b59 := iv14_9 hS0.1 ta1 c58
  have p60 := pre15 _ d2
  rw [c58] at p60
  obtain ⟨v61, c62⟩ : ∃ v, I0 a0 13 = v := ⟨_, rfl⟩
  have hM0 := hN _ d2
  have hO0 : FrO 14 a1 T I0 I0 := FrO.rf
  have q00_0 : Q00 0 = 0 := rfl
  have q00_1 : Q00 1 = 0 := rfl
  have q00_2 : Q00 2 = 0 := rfl
  have q00_3 : Q00 3 = 0 := rfl
  have q00_4 : Q00 4 = 0 := rfl
  have q00_5 : Q00 5 = 0 := rfl
  have q00_6 : Q00 6 = 0 := rfl
  have q00_7 : Q00 7 = 0 := rfl
  have q00_8 : Q00 8 = 0 := rfl
  refine q_iconst dX12_readAll_0 (by decide) ?_
  intro v63 h64
  refine tr_istore_n dX12_readAll_1 (by decide) (by decide) ?_
  have lp139 : ∀ (fu : Nat) (ls : Nat → Option Value) (v65 : Int32) (I68 : cz_I) (L69 : cz_L) (gs70 : Int) (gr71 : Nat) (gQ72 : Nat → Int) (gE73 : Nat → Nat → Int) (v78 : Int32) (v80 : Int32) (v82 : Int32) (v84 : Int32) (y86 : Int64) (v88 : Int32) (v90 : Int32) (v92 : Int32) (v94 : Int32) (v96 : Int32) (v98 : Int32) (v100 : Int32) (v102 : Int32) (v104 : Int32) (v106 : Int32), ls 0 = some (.ref a0) → ls 1 = some (.int v65) → St T cn K N 0 wik_X12_readAll wrk_X12_readAll I0 R0 I68 R0 → LgS T wlk_X12_readAll L0 L69 → NmM I68 R0 L69 a1 gQ72 → FrO 14 a1 T I0 I68 → I68 a0 13 = v78 → I68 a0 9 = v80 → I68 a0 10 = v82 → I68 a0 11 = v84 → L69 a0 15 = y86 → I68 a0 12 = v88 → I68 a0 8 = v90 → I68 a1 0 = v92 → I68 a1 1 = v94 → I68 a1 2 = v96 → I68 a1 3 = v98 → I68 a1 4 = v100 → I68 a1 5 = v102 → I68 a1 6 = v104 → I68 a1 9 = v106 → (lsF gB gr71 gs70 gQ72) = (lsF gB 901 0 Q00) → (lsP gB gr71 gs70 gQ72) = (lsP gB 901 0 Q00) → (lsC gB gr71 gs70 gQ72) = (lsC gB 901 0 Q00) → (lsA0 gB gr71 gs70 gQ72) = (lsA0 gB 901 0 Q00) → (lsA5 gB gr71 gs70 gQ72) = (lsA5 gB 901 0 Q00) → (lsA2 gB gr71 gs70 gQ72) = (lsA2 gB 901 0 Q00) → (lsA1 gB gr71 gs70 gQ72) = (lsA1 gB 901 0 Q00) → (lsA3 gB gr71 gs70 gQ72) = (lsA3 gB 901 0 Q00) → (lsA4 gB gr71 gs70 gQ72) = (lsA4 gB 901 0 Q00) → (lsA6 gB gr71 gs70 gQ72) = (lsA6 gB 901 0 Q00) → v65.toInt = 1 → ((gr71 : Int)) + v82.toInt ≥ 901 → v78.toInt = v61.toInt → v80.toInt = (tkM gB gs70) → v80.toInt ≤ 4 → v82.toInt = (tkS gB gs70) → v84.toInt = (tkG gB gs70) → (AtW ((tkK gB gs70)) (y86.toInt) ((tkW gB gs70))) → (AtV ((tkK gB gs70)) (v88.toInt) ((tkV gB gs70))) → (AtN ((tkK gB gs70)) (v90.toInt) ((tkN gB gs70))) → v92.toInt = (gQ72 0) → v94.toInt = (gQ72 1) → v96.toInt = (gQ72 2) → v98.toInt = (gQ72 3) → v100.toInt = (gQ72 4) → v102.toInt = (gQ72 5) → v104.toInt = (gQ72 6) → v106.toInt = (gQ72 8) → (Q7M ((gQ72 0)) ((gQ72 7))) → (((∀ j, I0 a1 j = 0) → AlM I68 R0 a1 gQ72 gE73) ∧ lsE gB gr71 gs70 gQ72 gE73 = lsE gB 901 0 Q00 E00) → (FrM R0 a1 T I0 I68) → (-v82.toInt + 900).toNat < fu → Tr X mX12_readAll 2 ls [] cn K N I68 R0 L69 0 0 := by
    intro fu
    induction fu with
    | zero => intros; rename_i hz; exact absurd hz (Nat.not_lt_zero _)
    | succ fu ih139 =>
      intro ls v65 I68 L69 gs70 gr71 gQ72 gE73 v78 v80 v82 v84 y86 v88 v90 v92 v94 v96 v98 v100 v102 v104 v106 hl66 hl67 hS74 hL75 hM76 hO77 c79 c81 c83 c85 c87 c89 c91 c93 c95 c97 c99 c101 c103 c105 c107 g108 g109 g110 g111 g112 g113 g114 g115 g116 g117 g118 g119 g120 g121 g122 g123 g124 g125 g126 g127 g128 g129 g130 g131 g132 g133 g134 g135 g136 rw137 rw138 hm139
      have b141 := iv15_9 hS74.1 ta0 c81
      have b142 := iv15_10 hS74.1 ta0 c83
      have b143 := iv15_8 hS74.1 ta0 c91
      have b144 := iv14_0 hS74.1 ta1 c93
      have b145 := iv14_1 hS74.1 ta1 c95
      have b146 := iv14_2 hS74.1 ta1 c97
      have b147 := iv14_3 hS74.1 ta1 c99
      have b148 := iv14_4 hS74.1 ta1 c101
      have b149 := iv14_5 hS74.1 ta1 c103
      have b150 := iv14_6 hS74.1 ta1 c105
      have b151 := iv14_9 hS74.1 ta1 c107
      rcases Nat.eq_zero_or_pos gr71 with hz152 | hz152
      · skip
        subst hz152
        exfalso; exact om_71ebda56 g123 b142.2 b142.1 g119
      · skip
        obtain ⟨gk153, rfl⟩ : ∃ k, gr71 = k + 1 := ⟨gr71 - 1, by exact om_dc97010f hz152⟩
        refine tr_iload_n dX12_readAll_2 hl67 ?_
        refine q_if_eq 20 dX12_readAll_3 (by decide) (fun h154 => ?_) (fun h154 => ?_)
        · skip
          exfalso; exact om_3624102b g118 h154
        · skip
          refine tr_aload_n dX12_readAll_6 hl66 ?_
          refine q_callVv hE (M' := mX12_readLine) (as := []) dX12_readAll_7 lk12_218 inX12_readLine seX12_readLine myX12_readLine (by decide) ⟨by decide, by decide⟩ rfl (kR15 hS74.1 ta0) (Nat.le_of_ble_eq_true rfl) rfl rfl (by decide) (by decide) (fk_X12_readLine hS74.1 (gB) (gs70) (gQ72) ta0 (TxA.kp hT hS74 ta0 rfl rfl rfl (by decide +kernel) (by decide +kernel)) (fun b hb => (Option.some.inj (d2.symm.trans hb)) ▸ hM76) (by (try rw [c81]); first | done | with_reducible assumption | omega) (by (try rw [c81]); first | done | with_reducible assumption | omega) (by (try rw [c83]); first | done | with_reducible assumption | omega) (by (try rw [c85]); first | done | with_reducible assumption | omega) (by (try rw [c87]); first | done | assumption) (by (try rw [c89]); first | done | assumption) (by (try rw [c91]); first | done | assumption) (by (try rw [((hS74.cell ta0 (by decide +kernel)).trans c26)]); first | done | with_reducible assumption | omega) (fun q0 z0 => by obtain rfl := Option.some.inj ((d2).symm.trans z0); (try rw [c93]); first | done | with_reducible assumption | omega) (fun q0 z0 => by obtain rfl := Option.some.inj ((d2).symm.trans z0); (try rw [c95]); first | done | with_reducible assumption | omega) (fun q0 z0 => by obtain rfl := Option.some.inj ((d2).symm.trans z0); (try rw [c97]); first | done | with_reducible assumption | omega) (fun q0 z0 => by obtain rfl := Option.some.inj ((d2).symm.trans z0); (try rw [c99]); first | done | with_reducible assumption | omega) (fun q0 z0 => by obtain rfl := Option.some.inj ((d2).symm.trans z0); (try rw [c101]); first | done | with_reducible assumption | omega) (fun q0 z0 => by obtain rfl := Option.some.inj ((d2).symm.trans z0); (try rw [c103]); first | done | with_reducible assumption | omega) (fun q0 z0 => by obtain rfl := Option.some.inj ((d2).symm.trans z0); (try rw [c105]); first | done | with_reducible assumption | omega) (fun q0 z0 => by obtain rfl := Option.some.inj ((d2).symm.trans z0); (try rw [c107]); first | done | with_reducible assumption | omega) (by first | done | assumption) ⟨_, d2⟩) ?_
          rintro cn' K' N' I155 R156 L157 ⟨rfl, rfl, rfl, rfl, g158, rp161, rp162, dj163, -⟩
          have hS164 := hS74.tr g158 (by decide +kernel) (by decide +kernel)
          have hO165 : FrO 14 a1 T I0 I155 := hO77.tr (rp162 _ d2)
          rcases dj163 with ⟨p166, p167, p168, p169, p170, p171, p172, p173, p174, p175, p176, p177, p178, p179, p180, p181, p182, gl183, rp184, rp185, -⟩ | ⟨p186, p187, p188, p189, -⟩
          · skip
            have hL190 := hL75.tr gl183 (by decide +kernel)
            obtain ⟨v191, c192⟩ : ∃ v, I155 a1 0 = v := ⟨_, rfl⟩
            have b193 := iv14_0 hS164.1 ta1 c192
            have p194 := p167 _ d2
            clear p167
            rw [c192] at p194
            obtain ⟨v195, c196⟩ : ∃ v, I155 a1 1 = v := ⟨_, rfl⟩
            have b197 := iv14_1 hS164.1 ta1 c196
            have p198 := p168 _ d2
            clear p168
            rw [c196] at p198
            obtain ⟨v199, c200⟩ : ∃ v, I155 a1 2 = v := ⟨_, rfl⟩
            have b201 := iv14_2 hS164.1 ta1 c200
            have p202 := p169 _ d2
            clear p169
            rw [c200] at p202
            obtain ⟨v203, c204⟩ : ∃ v, I155 a1 3 = v := ⟨_, rfl⟩
            have b205 := iv14_3 hS164.1 ta1 c204
            have p206 := p170 _ d2
            clear p170
            rw [c204] at p206
            obtain ⟨v207, c208⟩ : ∃ v, I155 a1 4 = v := ⟨_, rfl⟩
            have b209 := iv14_4 hS164.1 ta1 c208
            have p210 := p171 _ d2
            clear p171
            rw [c208] at p210
            obtain ⟨v211, c212⟩ : ∃ v, I155 a1 5 = v := ⟨_, rfl⟩
            have b213 := iv14_5 hS164.1 ta1 c212
            have p214 := p172 _ d2
            clear p172
            rw [c212] at p214
            obtain ⟨v215, c216⟩ : ∃ v, I155 a1 6 = v := ⟨_, rfl⟩
            have b217 := iv14_6 hS164.1 ta1 c216
            have p218 := p173 _ d2
            clear p173
            rw [c216] at p218
            obtain ⟨v219, c220⟩ : ∃ v, I155 a1 9 = v := ⟨_, rfl⟩
            have b221 := iv14_9 hS164.1 ta1 c220
            have p222 := p174 _ d2
            clear p174
            rw [c220] at p222
            obtain ⟨v223, c224⟩ : ∃ v, I155 a0 13 = v := ⟨_, rfl⟩
            rw [c224] at p175
            rw [c79] at p175
            obtain ⟨v225, c226⟩ : ∃ v, I155 a0 9 = v := ⟨_, rfl⟩
            have b227 := iv15_9 hS164.1 ta0 c226
            rw [c226] at p176
            rw [c226] at p177
            obtain ⟨v228, c229⟩ : ∃ v, I155 a0 10 = v := ⟨_, rfl⟩
            have b230 := iv15_10 hS164.1 ta0 c229
            rw [c229] at p178
            obtain ⟨v231, c232⟩ : ∃ v, I155 a0 11 = v := ⟨_, rfl⟩
            rw [c232] at p179
            obtain ⟨y233, c234⟩ : ∃ v, L157 a0 15 = v := ⟨_, rfl⟩
            rw [c234] at p180
            obtain ⟨v235, c236⟩ : ∃ v, I155 a0 12 = v := ⟨_, rfl⟩
            rw [c236] at p181
            obtain ⟨v237, c238⟩ : ∃ v, I155 a0 8 = v := ⟨_, rfl⟩
            have b239 := iv15_8 hS164.1 ta0 c238
            rw [c238] at p182
            obtain ⟨lq240, lq240a, lq240b⟩ := Q7M.ln (B := gB) (Q := gQ72) (s := gs70) (by exact om_29f55913 p166) g136
            refine tr_aload_n dX12_readAll_10 hl66 ?_
            refine q_bipush dX12_readAll_11 (by decide +kernel) ?_
            intro v241 h242
            refine q_callVi hE (M' := mX12_eatsSign) (as := [_]) dX12_readAll_13 lk12_221 inX12_eatsSign seX12_eatsSign myX12_eatsSign (by decide) ⟨by decide, by decide⟩ rfl (kR15 hS164.1 ta0) (Nat.le_of_ble_eq_true rfl) rfl rfl (by decide) (by decide) (fk_X12_eatsSign hS164.1 (gB) ((lnS gB gQ72 gs70)) ta0 (TxA.kp hT hS164 ta0 rfl rfl rfl (by decide +kernel) (by decide +kernel)) (by (try rw [c226]); first | done | with_reducible assumption | omega) (by (try rw [c226]); first | done | with_reducible assumption | omega) (by (try rw [c229]); first | done | with_reducible assumption | omega) (by (try rw [c232]); first | done | with_reducible assumption | omega) (by (try rw [c234]); first | done | assumption) (by (try rw [c236]); first | done | assumption) (by (try rw [c238]); first | done | assumption) (by (try rw [((hS164.cell ta0 (by decide +kernel)).trans c26)]); first | done | with_reducible assumption | omega) (by first | done | with_reducible assumption | exact om_ad8d03bd h242)) ?_
            rintro v248 cn' K' N' I243 R244 L245 ⟨rfl, rfl, rfl, rfl, g246, gl247, h249, dj250, -⟩
            have hM251 : NmM I243 R0 L157 a1 (lnQ gB gQ72 gs70) := NmM.kpS (rp184 _ d2) g246 hS164.1 ta1 (by decide +kernel) (by decide +kernel)
            have hS252 := hS164.tr g246 (by decide +kernel) (by decide +kernel)
            have c253 : I243 a1 0 = v191 := (g246.cell ta1 (by decide +kernel)).trans c192
            have c254 : I243 a1 1 = v195 := (g246.cell ta1 (by decide +kernel)).trans c196
            have c255 : I243 a1 2 = v199 := (g246.cell ta1 (by decide +kernel)).trans c200
            have c256 : I243 a1 3 = v203 := (g246.cell ta1 (by decide +kernel)).trans c204
            have c257 : I243 a1 4 = v207 := (g246.cell ta1 (by decide +kernel)).trans c208
            have c258 : I243 a1 5 = v211 := (g246.cell ta1 (by decide +kernel)).trans c212
            have c259 : I243 a1 6 = v215 := (g246.cell ta1 (by decide +kernel)).trans c216
            have c260 : I243 a1 9 = v219 := (g246.cell ta1 (by decide +kernel)).trans c220
            have c261 : I243 a0 13 = v223 := (g246.cell ta0 (by decide +kernel)).trans c224
            have hO262 : FrO 14 a1 T I0 I243 := hO165.st g246 (by decide +kernel)
            have hL263 := hL190.tr gl247 (by decide +kernel)
            have hM264 : NmM I243 R0 L245 a1 (lnQ gB gQ72 gs70) := NmM.kpL hM251 gl247 hS252.1 ta1 (by decide +kernel)
            rcases dj250 with ⟨p265, p266, p267, p268, p269, p270, p271, p272, p273, p274, -⟩ | ⟨p275, p276, p277, p278, p279, p280, p281, p282, p283, p284, -⟩
            · skip
              rw [c261] at p267
              rw [c224] at p267
              obtain ⟨v285, c286⟩ : ∃ v, I243 a0 9 = v := ⟨_, rfl⟩
              have b287 := iv15_9 hS252.1 ta0 c286
              rw [c286] at p268
              rw [c286] at p269
              obtain ⟨v288, c289⟩ : ∃ v, I243 a0 10 = v := ⟨_, rfl⟩
              have b290 := iv15_10 hS252.1 ta0 c289
              rw [c289] at p270
              obtain ⟨v291, c292⟩ : ∃ v, I243 a0 11 = v := ⟨_, rfl⟩
              rw [c292] at p271
              obtain ⟨y293, c294⟩ : ∃ v, L245 a0 15 = v := ⟨_, rfl⟩
              rw [c294] at p272
              obtain ⟨v295, c296⟩ : ∃ v, I243 a0 12 = v := ⟨_, rfl⟩
              rw [c296] at p273
              obtain ⟨v297, c298⟩ : ∃ v, I243 a0 8 = v := ⟨_, rfl⟩
              have b299 := iv15_8 hS252.1 ta0 c298
              rw [c298] at p274
              refine tr_istore_n dX12_readAll_16 (by decide) (by decide) ?_
              refine tr_goto 2 dX12_readAll_17 (by decide) ?_
              have lg300 := ls_go (B := gB) (Q := gQ72) (s := gs70) (by exact om_29f55913 p166)
              exact ih139 _ v248 I243 L245 ((tkN gB (lnS gB gQ72 gs70))) (gk153) ((lnQ gB gQ72 gs70)) ((lnE gB gQ72 gs70 gE73)) v223 v285 v288 v291 y293 v295 v297 v191 v195 v199 v203 v207 v211 v215 v219 hl66 rfl hS252 hL263 hM264 hO262 c261 c286 c289 c292 c294 c296 c298 c253 c254 c255 c256 c257 c258 c259 c260 (by rw [← g108]; simp only [lsF, ↓reduceIte]; exact om_8cc6c95b p166 h242 p266) (by rw [← g109]; simp only [lsP, ↓reduceIte]; exact om_0bf81be8 p166 h242 p266) (by rw [← g110]; simp only [lsC, ↓reduceIte]; exact om_02d25939 p166 h242 p266) (by rw [← g111]; simp only [lsA0, ↓reduceIte]; exact om_2180ce66 p166 h242 p266) (by rw [← g112]; simp only [lsA5, ↓reduceIte]; exact om_2180ce66 p166 h242 p266) (by rw [← g113]; simp only [lsA2, ↓reduceIte]; exact om_2180ce66 p166 h242 p266) (by rw [← g114]; simp only [lsA1, ↓reduceIte]; exact om_2180ce66 p166 h242 p266) (by rw [← g115]; simp only [lsA3, ↓reduceIte]; exact om_02d25939 p166 h242 p266) (by rw [← g116]; simp only [lsA4, ↓reduceIte]; exact om_2180ce66 p166 h242 p266) (by rw [← g117]; simp only [lsA6, ↓reduceIte]; exact om_2180ce66 p166 h242 p266) (by exact om_ee8a1e2d p265) (by exact om_bf9e05ca g123 g119 p270 lg300) (by exact om_9fa72578 g120 p175) (by exact om_acd7a85a p268) (by exact om_fc4b6669 p269) (by exact om_acd7a85a p270) (by exact om_acd7a85a p271) (by assumption) (by assumption) (by assumption) (by exact om_acd7a85a p194) (by exact om_acd7a85a p198) (by exact om_acd7a85a p202) (by exact om_acd7a85a p206) (by exact om_acd7a85a p210) (by exact om_acd7a85a p214) (by exact om_acd7a85a p218) (by exact om_acd7a85a p222) lq240 ⟨fun hz => AlM.kp (rp185 _ _ d2 (rw137.1 hz)) hW0 ta1 (g246.cell ta1 (wm_no (by decide +kernel))) ((RoF.rf (ex := rdm) (T := T)).tr (RoF.st g246 (by decide +kernel))), by rw [← rw137.2, lsE, if_neg (by exact om_9d9e5419 p166), if_neg (by exact om_8901f341 h242 p266), if_neg (by exact om_40e4e3ba h242 p266)]⟩ ((rw138.tr (rp161 _ d2)).st g246 (by decide +kernel)) (by exact om_2eb640a8 g118 g123 hm139 b142.2 b142.1 h154 p270 b290.2 b290.1 lg300)
            · skip
              rw [c261] at p277
              rw [c224] at p277
              obtain ⟨v301, c302⟩ : ∃ v, I243 a0 9 = v := ⟨_, rfl⟩
              have b303 := iv15_9 hS252.1 ta0 c302
              rw [c302] at p278
              rw [c302] at p279
              obtain ⟨v304, c305⟩ : ∃ v, I243 a0 10 = v := ⟨_, rfl⟩
              have b306 := iv15_10 hS252.1 ta0 c305
              rw [c305] at p280
              obtain ⟨v307, c308⟩ : ∃ v, I243 a0 11 = v := ⟨_, rfl⟩
              rw [c308] at p281
              obtain ⟨y309, c310⟩ : ∃ v, L245 a0 15 = v := ⟨_, rfl⟩
              rw [c310] at p282
              obtain ⟨v311, c312⟩ : ∃ v, I243 a0 12 = v := ⟨_, rfl⟩
              rw [c312] at p283
              obtain ⟨v313, c314⟩ : ∃ v, I243 a0 8 = v := ⟨_, rfl⟩
              have b315 := iv15_8 hS252.1 ta0 c314
              rw [c314] at p284
              refine tr_istore_n dX12_readAll_16 (by decide) (by decide) ?_
              refine tr_goto 2 dX12_readAll_17 (by decide) ?_
              refine tr_iload_n dX12_readAll_2 rfl ?_
              refine q_if_eq 20 dX12_readAll_3 (by decide) (fun h316 => ?_) (fun h316 => ?_)
              · skip
                have ht317 := tkM_of gB (lnS gB gQ72 gs70)
                refine tr_aload_n dX12_readAll_20 hl66 ?_
                refine q_getI dX12_readAll_21 fl12_99 (kR15 hS252.1 ta0) c302 ?_
                refine q_iconst dX12_readAll_24 (by decide) ?_
                intro v318 h319
                refine q_icmp_eq 33 dX12_readAll_25 (by decide) (fun h320 => ?_) (fun h320 => ?_)
                · skip
                  refine tr_aload_n dX12_readAll_33 hl66 ?_
                  refine tr_getR dX12_readAll_34 fl12_188 (kR15 hS252.1 ta0) d2 ?_
                  refine q_getI dX12_readAll_37 fl12_192 (kR14 hS252.1 ta1) c253 ?_
                  refine q_if_eq 53 dX12_readAll_40 (by decide) (fun h321 => ?_) (fun h321 => ?_)
                  · skip
                    exfalso; exact om_78669f89 b193.2 b193.1 p194 lq240b h321
                  · skip
                    refine tr_aload_n dX12_readAll_43 hl66 ?_
                    refine tr_getR dX12_readAll_44 fl12_188 (kR15 hS252.1 ta0) d2 ?_
                    refine q_getI dX12_readAll_47 fl12_224 (kR14 hS252.1 ta1) c256 ?_
                    refine q_if_ne 59 dX12_readAll_50 (by decide) (fun h322 => ?_) (fun h322 => ?_)
                    · skip
                      obtain ⟨v323, c324⟩ : ∃ v, I243 a0 14 = v := ⟨_, rfl⟩
                      exact tr_vret hZ dX12_readAll_59 rfl (by decide) (by decide) ⟨rfl, rfl, rfl, rfl, rfl, hS252, (fun b hb => (Option.some.inj (d2.symm.trans hb)) ▸ ((rw138.tr (rp161 _ d2)).st g246 (by decide +kernel))), (fun dr hd => (Option.some.inj (d2.symm.trans hd)) ▸ hO262), (Or.inl ⟨(by rw [← g108]; simp only [lsF, ↓reduceIte]; exact om_91798923 p166 b193.2 b193.1 p194 b205.2 b205.1 p206 lq240b p278 ht317 h319 h320 h321 h322), (by (try rw [c261]); (try rw [c62]); first | done | with_reducible assumption | exact om_9fa72578 g120 p175), (fun q0 z0 => by obtain rfl := Option.some.inj ((d2).symm.trans z0); (try rw [c256]); rw [← g110]; simp only [lsC, ↓reduceIte]; exact om_b7c3e2a4 p166 b193.2 b193.1 p194 b205.2 b205.1 p206 lq240b p278 ht317 h319 h320 h321 h322), (by (try rw [c302]); first | done | with_reducible assumption | omega), (fun q0 z0 => by obtain rfl := Option.some.inj ((d2).symm.trans z0); (try rw [c253]); first | done | with_reducible assumption | exact om_9e2714d8 b193.2 b193.1 p194 lq240b), (fun q0 z0 => by obtain rfl := Option.some.inj ((d2).symm.trans z0); (try rw [c253]); rw [← g111]; simp only [lsA0, ↓reduceIte]; exact om_21e5ec46 p166 b193.2 b193.1 p194 b205.2 b205.1 p206 lq240b p278 ht317 h319 h320 h321 h322), (fun q0 z0 => by obtain rfl := Option.some.inj ((d2).symm.trans z0); (try rw [c258]); rw [← g112]; simp only [lsA5, ↓reduceIte]; exact om_93d0874c p166 b193.2 b193.1 p194 b205.2 b205.1 p206 b213.2 b213.1 p214 lq240b p278 ht317 h319 h320 h321 h322), (fun q0 z0 => by obtain rfl := Option.some.inj ((d2).symm.trans z0); (try rw [c255]); rw [← g113]; simp only [lsA2, ↓reduceIte]; exact om_9f4c52d4 p166 b193.2 b193.1 p194 b201.2 b201.1 p202 b205.2 b205.1 p206 lq240b p278 ht317 h319 h320 h321 h322), (fun q0 z0 => by obtain rfl := Option.some.inj ((d2).symm.trans z0); (try rw [c254]); rw [← g114]; simp only [lsA1, ↓reduceIte]; exact om_f9d03d54 p166 b193.2 b193.1 p194 b197.2 b197.1 p198 b205.2 b205.1 p206 lq240b p278 ht317 h319 h320 h321 h322), (fun q0 z0 => by obtain rfl := Option.some.inj ((d2).symm.trans z0); (try rw [c256]); rw [← g115]; simp only [lsA3, ↓reduceIte]; exact om_b7c3e2a4 p166 b193.2 b193.1 p194 b205.2 b205.1 p206 lq240b p278 ht317 h319 h320 h321 h322), (fun q0 z0 => by obtain rfl := Option.some.inj ((d2).symm.trans z0); (try rw [c257]); rw [← g116]; simp only [lsA4, ↓reduceIte]; exact om_b481c094 p166 b193.2 b193.1 p194 b205.2 b205.1 p206 b209.2 b209.1 p210 lq240b p278 ht317 h319 h320 h321 h322), (fun q0 z0 => by obtain rfl := Option.some.inj ((d2).symm.trans z0); (try rw [c259]); rw [← g117]; simp only [lsA6, ↓reduceIte]; exact om_a4951f48 p166 b193.2 b193.1 p194 b205.2 b205.1 p206 b217.2 b217.1 p218 lq240b p278 ht317 h319 h320 h321 h322), hL263, (fun b hb => by obtain rfl := Option.some.inj (d2.symm.trans hb); intro hz; have e : lsE gB 901 0 Q00 E00 = lnE gB gQ72 gs70 gE73 := (by rw [← rw137.2, lsE, if_neg (by exact om_9d9e5419 p166), if_pos (by exact om_9bdd74b3 b193.2 b193.1 p194 b205.2 b205.1 p206 lq240b p278 ht317 h319 h320 h321 h322)]); rw [e]; exact AlM.no (c' := cnt gB) (AlM.kp (rp185 _ _ d2 (rw137.1 hz)) hW0 ta1 (g246.cell ta1 (wm_no (by decide +kernel))) ((RoF.rf (ex := rdm) (T := T)).tr (RoF.st g246 (by decide +kernel)))) ⟨(by show lsA0 gB 901 0 Q00 = _; rw [← g111, lsA0, if_neg (by exact om_9d9e5419 p166), if_pos (by exact om_9bdd74b3 b193.2 b193.1 p194 b205.2 b205.1 p206 lq240b p278 ht317 h319 h320 h321 h322), if_pos (by exact om_2a10ed91 b205.2 b205.1 p206 h322)]), (by show lsA2 gB 901 0 Q00 = _; rw [← g113, lsA2, if_neg (by exact om_9d9e5419 p166), if_pos (by exact om_9bdd74b3 b193.2 b193.1 p194 b205.2 b205.1 p206 lq240b p278 ht317 h319 h320 h321 h322), if_pos (by exact om_2a10ed91 b205.2 b205.1 p206 h322)]), (by show lsA3 gB 901 0 Q00 = _; rw [← g115, lsA3, if_neg (by exact om_9d9e5419 p166), if_pos (by exact om_9bdd74b3 b193.2 b193.1 p194 b205.2 b205.1 p206 lq240b p278 ht317 h319 h320 h321 h322), if_pos (by exact om_2a10ed91 b205.2 b205.1 p206 h322)]), (by show lsA4 gB 901 0 Q00 = _; rw [← g116, lsA4, if_neg (by exact om_9d9e5419 p166), if_pos (by exact om_9bdd74b3 b193.2 b193.1 p194 b205.2 b205.1 p206 lq240b p278 ht317 h319 h320 h321 h322), if_pos (by exact om_2a10ed91 b205.2 b205.1 p206 h322)]), (by show lsA5 gB 901 0 Q00 = _; rw [← g112, lsA5, if_neg (by exact om_9d9e5419 p166), if_pos (by exact om_9bdd74b3 b193.2 b193.1 p194 b205.2 b205.1 p206 lq240b p278 ht317 h319 h320 h321 h322), if_pos (by exact om_2a10ed91 b205.2 b205.1 p206 h322)]), (by show lsA6 gB 901 0 Q00 = _; rw [← g117, lsA6, if_neg (by exact om_9d9e5419 p166), if_pos (by exact om_9bdd74b3 b193.2 b193.1 p194 b205.2 b205.1 p206 lq240b p278 ht317 h319 h320 h321 h322), if_pos (by exact om_2a10ed91 b205.2 b205.1 p206 h322)])⟩ (fun _ _ => rfl)), trivial⟩), trivial⟩
                    · skip
                      refine tr_aload_n dX12_readAll_53 hl66 ?_
                      refine q_bipush dX12_readAll_54 (by decide +kernel) ?_
                      intro v325 h326
                      refine q_callVv hE (M' := mX12_flaw) (as := [_]) dX12_readAll_56 lk12_145 inX12_flaw seX12_flaw myX12_flaw (by decide) ⟨by decide, by decide⟩ rfl (kR15 hS252.1 ta0) (Nat.le_of_ble_eq_true rfl) rfl rfl (by decide) (by decide) (fk_X12_flaw hS252.1  ta0 (by exact om_54a92a42 h326) (by (try rw [c302]); first | done | with_reducible assumption | exact om_6d67e03c h319 h320)) ?_
                      rintro cn' K' N' I327 R328 L329 ⟨rfl, rfl, rfl, rfl, rfl, g330, p333, p334, p335, -⟩
                      have hM336 : NmM I327 R0 L245 a1 (lnQ gB gQ72 gs70) := NmM.kpS hM264 g330 hS252.1 ta1 (by decide +kernel) (by decide +kernel)
                      have hS337 := hS252.tr g330 (by decide +kernel) (by decide +kernel)
                      have c338 : I327 a1 0 = v191 := (g330.cell ta1 (by decide +kernel)).trans c253
                      have c339 : I327 a1 1 = v195 := (g330.cell ta1 (by decide +kernel)).trans c254
                      have c340 : I327 a1 2 = v199 := (g330.cell ta1 (by decide +kernel)).trans c255
                      have c341 : I327 a1 3 = v203 := (g330.cell ta1 (by decide +kernel)).trans c256
                      have c342 : I327 a1 4 = v207 := (g330.cell ta1 (by decide +kernel)).trans c257
                      have c343 : I327 a1 5 = v211 := (g330.cell ta1 (by decide +kernel)).trans c258
                      have c344 : I327 a1 6 = v215 := (g330.cell ta1 (by decide +kernel)).trans c259
                      have c345 : I327 a1 9 = v219 := (g330.cell ta1 (by decide +kernel)).trans c260
                      have c346 : I327 a0 10 = v304 := (g330.cell ta0 (by decide +kernel)).trans c305
                      have c347 : I327 a0 11 = v307 := (g330.cell ta0 (by decide +kernel)).trans c308
                      have c348 : I327 a0 12 = v311 := (g330.cell ta0 (by decide +kernel)).trans c312
                      have c349 : I327 a0 8 = v313 := (g330.cell ta0 (by decide +kernel)).trans c314
                      have hO350 : FrO 14 a1 T I0 I327 := hO262.st g330 (by decide +kernel)
                      obtain ⟨v351, c352⟩ : ∃ v, I327 a0 9 = v := ⟨_, rfl⟩
                      have b353 := iv15_9 hS337.1 ta0 c352
                      rw [c352] at p333
                      obtain ⟨v354, c355⟩ : ∃ v, I327 a0 13 = v := ⟨_, rfl⟩
                      rw [c355] at p334
                      obtain ⟨v356, c357⟩ : ∃ v, I327 a0 14 = v := ⟨_, rfl⟩
                      rw [c357] at p335
                      rw [c305] at p335
                      exact tr_vret hZ dX12_readAll_59 rfl (by decide) (by decide) ⟨rfl, rfl, rfl, rfl, rfl, hS337, (fun b hb => (Option.some.inj (d2.symm.trans hb)) ▸ (((rw138.tr (rp161 _ d2)).st g246 (by decide +kernel)).st g330 (by decide +kernel))), (fun dr hd => (Option.some.inj (d2.symm.trans hd)) ▸ hO350), (Or.inr (⟨(by rw [← g108]; simp only [lsF, ↓reduceIte]; exact om_5cce6680 b193.2 b193.1 p194 p206 lq240b p278 ht317 h319 h320 h321 h322), (by (try rw [c352]); first | done | with_reducible assumption | omega), (by (try rw [c355]); rw [← g108]; simp only [lsF, ↓reduceIte]; exact om_3760f6c7 p166 b193.2 b193.1 p194 p206 lq240b p278 ht317 h319 h320 h321 h322 h326 p334), (by (try rw [c357]); rw [← g109]; simp only [lsP, ↓reduceIte]; exact om_9b1f6c09 p166 b193.2 b193.1 p194 p206 lq240b p278 p280 ht317 h319 h320 h321 h322 p335), trivial⟩)), trivial⟩
                · skip
                  refine tr_aload_n dX12_readAll_28 hl66 ?_
                  refine q_iconst dX12_readAll_29 (by decide) ?_
                  intro v358 h359
                  refine q_callVv hE (M' := mX12_flaw) (as := [_]) dX12_readAll_30 lk12_145 inX12_flaw seX12_flaw myX12_flaw (by decide) ⟨by decide, by decide⟩ rfl (kR15 hS252.1 ta0) (Nat.le_of_ble_eq_true rfl) rfl rfl (by decide) (by decide) (fk_X12_flaw hS252.1  ta0 (by exact om_95922198 h359) (by (try rw [c302]); first | done | with_reducible assumption | exact om_ada015f3 p177 p176 b227.1 p278)) ?_
                  rintro cn' K' N' I360 R361 L362 ⟨rfl, rfl, rfl, rfl, rfl, g363, p366, p367, p368, -⟩
                  have hM369 : NmM I360 R0 L245 a1 (lnQ gB gQ72 gs70) := NmM.kpS hM264 g363 hS252.1 ta1 (by decide +kernel) (by decide +kernel)
                  have hS370 := hS252.tr g363 (by decide +kernel) (by decide +kernel)
                  have c371 : I360 a1 0 = v191 := (g363.cell ta1 (by decide +kernel)).trans c253
                  have c372 : I360 a1 1 = v195 := (g363.cell ta1 (by decide +kernel)).trans c254
                  have c373 : I360 a1 2 = v199 := (g363.cell ta1 (by decide +kernel)).trans c255
                  have c374 : I360 a1 3 = v203 := (g363.cell ta1 (by decide +kernel)).trans c256
                  have c375 : I360 a1 4 = v207 := (g363.cell ta1 (by decide +kernel)).trans c257
                  have c376 : I360 a1 5 = v211 := (g363.cell ta1 (by decide +kernel)).trans c258
                  have c377 : I360 a1 6 = v215 := (g363.cell ta1 (by decide +kernel)).trans c259
                  have c378 : I360 a1 9 = v219 := (g363.cell ta1 (by decide +kernel)).trans c260
                  have c379 : I360 a0 10 = v304 := (g363.cell ta0 (by decide +kernel)).trans c305
                  have c380 : I360 a0 11 = v307 := (g363.cell ta0 (by decide +kernel)).trans c308
                  have c381 : I360 a0 12 = v311 := (g363.cell ta0 (by decide +kernel)).trans c312
                  have c382 : I360 a0 8 = v313 := (g363.cell ta0 (by decide +kernel)).trans c314
                  have hO383 : FrO 14 a1 T I0 I360 := hO262.st g363 (by decide +kernel)
                  obtain ⟨v384, c385⟩ : ∃ v, I360 a0 9 = v := ⟨_, rfl⟩
                  have b386 := iv15_9 hS370.1 ta0 c385
                  rw [c385] at p366
                  obtain ⟨v387, c388⟩ : ∃ v, I360 a0 13 = v := ⟨_, rfl⟩
                  rw [c388] at p367
                  obtain ⟨v389, c390⟩ : ∃ v, I360 a0 14 = v := ⟨_, rfl⟩
                  rw [c390] at p368
                  rw [c305] at p368
                  refine tr_aload_n dX12_readAll_33 hl66 ?_
                  refine tr_getR dX12_readAll_34 fl12_188 (kR15 hS370.1 ta0) d2 ?_
                  refine q_getI dX12_readAll_37 fl12_192 (kR14 hS370.1 ta1) c371 ?_
                  refine q_if_eq 53 dX12_readAll_40 (by decide) (fun h391 => ?_) (fun h391 => ?_)
                  · skip
                    exfalso; exact om_78669f89 b193.2 b193.1 p194 lq240b h391
                  · skip
                    refine tr_aload_n dX12_readAll_43 hl66 ?_
                    refine tr_getR dX12_readAll_44 fl12_188 (kR15 hS370.1 ta0) d2 ?_
                    refine q_getI dX12_readAll_47 fl12_224 (kR14 hS370.1 ta1) c374 ?_
                    refine q_if_ne 59 dX12_readAll_50 (by decide) (fun h392 => ?_) (fun h392 => ?_)
                    · skip
                      exact tr_vret hZ dX12_readAll_59 rfl (by decide) (by decide) ⟨rfl, rfl, rfl, rfl, rfl, hS370, (fun b hb => (Option.some.inj (d2.symm.trans hb)) ▸ (((rw138.tr (rp161 _ d2)).st g246 (by decide +kernel)).st g363 (by decide +kernel))), (fun dr hd => (Option.some.inj (d2.symm.trans hd)) ▸ hO383), (Or.inr (⟨(by rw [← g108]; simp only [lsF, ↓reduceIte]; exact om_3ad483f4 b193.2 b193.1 p194 b205.2 b205.1 p206 lq240b h242 p276 p278 ht317 h319 h320 h391 h392), (by (try rw [c385]); first | done | with_reducible assumption | omega), (by (try rw [c388]); rw [← g108]; simp only [lsF, ↓reduceIte]; exact om_ab4e3c3f p166 b193.2 b193.1 p194 b205.2 b205.1 p206 lq240b h242 p276 p278 ht317 h319 h320 h359 p367 h391 h392), (by (try rw [c390]); rw [← g109]; simp only [lsP, ↓reduceIte]; exact om_8d4b8d50 p166 b193.2 b193.1 p194 b205.2 b205.1 p206 p178 b230.2 b230.1 lq240b h242 p276 p278 p280 ht317 h319 h320 p368 h391 h392), trivial⟩)), trivial⟩
                    · skip
                      refine tr_aload_n dX12_readAll_53 hl66 ?_
                      refine q_bipush dX12_readAll_54 (by decide +kernel) ?_
                      intro v393 h394
                      refine q_callVv hE (M' := mX12_flaw) (as := [_]) dX12_readAll_56 lk12_145 inX12_flaw seX12_flaw myX12_flaw (by decide) ⟨by decide, by decide⟩ rfl (kR15 hS370.1 ta0) (Nat.le_of_ble_eq_true rfl) rfl rfl (by decide) (by decide) (k_X12_flaw hS370.1 ta0 (by exact om_54a92a42 h394)) ?_
                      rintro cn' K' N' I395 R396 L397 ⟨rfl, rfl, rfl, rfl, rfl, g398, p400, p401, w402, -⟩
                      have hS403 := hS370.tr g398 (by decide +kernel) (by decide +kernel)
                      have c404 : I395 a1 0 = v191 := (g398.cell ta1 (by decide +kernel)).trans c371
                      have c405 : I395 a1 1 = v195 := (g398.cell ta1 (by decide +kernel)).trans c372
                      have c406 : I395 a1 2 = v199 := (g398.cell ta1 (by decide +kernel)).trans c373
                      have c407 : I395 a1 3 = v203 := (g398.cell ta1 (by decide +kernel)).trans c374
                      have c408 : I395 a1 4 = v207 := (g398.cell ta1 (by decide +kernel)).trans c375
                      have c409 : I395 a1 5 = v211 := (g398.cell ta1 (by decide +kernel)).trans c376
                      have c410 : I395 a1 6 = v215 := (g398.cell ta1 (by decide +kernel)).trans c377
                      have c411 : I395 a1 9 = v219 := (g398.cell ta1 (by decide +kernel)).trans c378
                      have c412 : I395 a0 10 = v304 := (g398.cell ta0 (by decide +kernel)).trans c379
                      have c413 : I395 a0 11 = v307 := (g398.cell ta0 (by decide +kernel)).trans c380
                      have c414 : I395 a0 12 = v311 := (g398.cell ta0 (by decide +kernel)).trans c381
                      have c415 : I395 a0 8 = v313 := (g398.cell ta0 (by decide +kernel)).trans c382
                      obtain ⟨v416, c417⟩ : ∃ v, I395 a0 9 = v := ⟨_, rfl⟩
                      have b418 := iv15_9 hS403.1 ta0 c417
                      rw [c417] at p400
                      rw [c415] at p401
                      rw [c382] at p401
                      have hO419 : FrO 14 a1 T I0 I395 := hO383.st g398 (by decide +kernel)
                      have ov420 := w402.over (by rw [c385]; exact om_394b70a2 p366)
                      obtain ⟨v421, c422⟩ : ∃ v, I395 a0 9 = v := ⟨_, rfl⟩
                      have b423 := iv15_9 hS403.1 ta0 c422
                      obtain ⟨v424, c425⟩ : ∃ v, I395 a0 13 = v := ⟨_, rfl⟩
                      obtain ⟨v426, c427⟩ : ∃ v, I395 a0 14 = v := ⟨_, rfl⟩
                      (try rw [c422] at ov420)
                      (try rw [c425] at ov420)
                      (try rw [c427] at ov420)
                      (try rw [c385] at ov420)
                      (try rw [c388] at ov420)
                      (try rw [c390] at ov420)
                      exact tr_vret hZ dX12_readAll_59 rfl (by decide) (by decide) ⟨rfl, rfl, rfl, rfl, rfl, hS403, (fun b hb => (Option.some.inj (d2.symm.trans hb)) ▸ ((((rw138.tr (rp161 _ d2)).st g246 (by decide +kernel)).st g363 (by decide +kernel)).st g398 (by decide +kernel))), (fun dr hd => (Option.some.inj (d2.symm.trans hd)) ▸ hO419), (Or.inr (⟨(by rw [← g108]; simp only [lsF, ↓reduceIte]; exact om_3fd7a786 b193.2 b193.1 p194 p206 lq240b h242 p276 p278 ht317 h319 h320 h391 h392), (by (try rw [c422]); first | done | with_reducible assumption | exact om_394b70a2 ov420.1), (by (try rw [c425]); rw [← g108]; simp only [lsF, ↓reduceIte]; exact om_4645e64f p166 b193.2 b193.1 p194 p206 lq240b h242 p276 p278 ht317 h319 h320 h359 p367 h391 h392 ov420.2.1), (by (try rw [c427]); rw [← g109]; simp only [lsP, ↓reduceIte]; exact om_894e213f p166 b193.2 b193.1 p194 p206 lq240b h242 p276 p278 p280 ht317 h319 h320 p368 h391 h392 ov420.2.2), trivial⟩)), trivial⟩
              · skip
                exfalso; exact om_3a97d4a5 p275 h316
          · skip
            obtain ⟨v428, c429⟩ : ∃ v, I155 a0 9 = v := ⟨_, rfl⟩
            have b430 := iv15_9 hS164.1 ta0 c429
            rw [c429] at p187
            obtain ⟨v431, c432⟩ : ∃ v, I155 a0 13 = v := ⟨_, rfl⟩
            rw [c432] at p188
            obtain ⟨v433, c434⟩ : ∃ v, I155 a0 14 = v := ⟨_, rfl⟩
            rw [c434] at p189
            refine tr_aload_n dX12_readAll_10 hl66 ?_
            refine q_bipush dX12_readAll_11 (by decide +kernel) ?_
            intro v435 h436
            obtain ⟨v437, c438⟩ : ∃ v, I155 a0 8 = v := ⟨_, rfl⟩
            have b439 := iv15_8 hS164.1 ta0 c438
            refine q_callVi hE (M' := mX12_eatsSign) (as := [_]) dX12_readAll_13 lk12_221 inX12_eatsSign seX12_eatsSign myX12_eatsSign (by decide) ⟨by decide, by decide⟩ rfl (kR15 hS164.1 ta0) (Nat.le_of_ble_eq_true rfl) rfl rfl (by decide) (by decide) (k_X12_eatsSign hS164.1 ta0) ?_
            rintro v444 cn' K' N' I440 R441 L442 ⟨rfl, rfl, rfl, rfl, g443, h445, p446, p447, w448, -⟩
            have hS449 := hS164.tr g443 (by decide +kernel) (by decide +kernel)
            have c450 : I440 a0 13 = v431 := (g443.cell ta0 (by decide +kernel)).trans c432
            have c451 : I440 a0 14 = v433 := (g443.cell ta0 (by decide +kernel)).trans c434
            rw [c429] at p446
            obtain ⟨v452, c453⟩ : ∃ v, I440 a0 8 = v := ⟨_, rfl⟩
            have b454 := iv15_8 hS449.1 ta0 c453
            rw [c453] at p447
            rw [c438] at p447
            have hO455 : FrO 14 a1 T I0 I440 := hO165.st g443 (by decide +kernel)
            have ov456 := w448.over (by rw [c429]; exact om_394b70a2 p187)
            obtain ⟨v457, c458⟩ : ∃ v, I440 a0 9 = v := ⟨_, rfl⟩
            have b459 := iv15_9 hS449.1 ta0 c458
            obtain ⟨v460, c461⟩ : ∃ v, I440 a0 13 = v := ⟨_, rfl⟩
            obtain ⟨v462, c463⟩ : ∃ v, I440 a0 14 = v := ⟨_, rfl⟩
            (try rw [c458] at ov456)
            (try rw [c461] at ov456)
            (try rw [c463] at ov456)
            (try rw [c429] at ov456)
            (try rw [c432] at ov456)
            (try rw [c434] at ov456)
            refine tr_istore_n dX12_readAll_16 (by decide) (by decide) ?_
            refine tr_goto 2 dX12_readAll_17 (by decide) ?_
            refine tr_iload_n dX12_readAll_2 rfl ?_
            refine q_if_eq 20 dX12_readAll_3 (by decide) (fun h464 => ?_) (fun h464 => ?_)
            · skip
              refine tr_aload_n dX12_readAll_20 hl66 ?_
              refine q_getI dX12_readAll_21 fl12_99 (kR15 hS449.1 ta0) c458 ?_
              refine q_iconst dX12_readAll_24 (by decide) ?_
              intro v465 h466
              refine q_icmp_eq 33 dX12_readAll_25 (by decide) (fun h467 => ?_) (fun h467 => ?_)
              · skip
                exfalso; exact om_9c37436c ov456.1 h466 h467
              · skip
                refine tr_aload_n dX12_readAll_28 hl66 ?_
                refine q_iconst dX12_readAll_29 (by decide) ?_
                intro v468 h469
                refine q_callVv hE (M' := mX12_flaw) (as := [_]) dX12_readAll_30 lk12_145 inX12_flaw seX12_flaw myX12_flaw (by decide) ⟨by decide, by decide⟩ rfl (kR15 hS449.1 ta0) (Nat.le_of_ble_eq_true rfl) rfl rfl (by decide) (by decide) (k_X12_flaw hS449.1 ta0 (by exact om_95922198 h469)) ?_
                rintro cn' K' N' I470 R471 L472 ⟨rfl, rfl, rfl, rfl, rfl, g473, p475, p476, w477, -⟩
                have hS478 := hS449.tr g473 (by decide +kernel) (by decide +kernel)
                have c479 : I470 a0 8 = v452 := (g473.cell ta0 (by decide +kernel)).trans c453
                obtain ⟨v480, c481⟩ : ∃ v, I470 a0 9 = v := ⟨_, rfl⟩
                have b482 := iv15_9 hS478.1 ta0 c481
                rw [c481] at p475
                rw [c479] at p476
                rw [c453] at p476
                have hO483 : FrO 14 a1 T I0 I470 := hO455.st g473 (by decide +kernel)
                have ov484 := w477.over (by rw [c458]; exact om_394b70a2 ov456.1)
                obtain ⟨v485, c486⟩ : ∃ v, I470 a0 9 = v := ⟨_, rfl⟩
                have b487 := iv15_9 hS478.1 ta0 c486
                obtain ⟨v488, c489⟩ : ∃ v, I470 a0 13 = v := ⟨_, rfl⟩
                obtain ⟨v490, c491⟩ : ∃ v, I470 a0 14 = v := ⟨_, rfl⟩
                (try rw [c486] at ov484)
                (try rw [c489] at ov484)
                (try rw [c491] at ov484)
                (try rw [c458] at ov484)
                (try rw [c461] at ov484)
                (try rw [c463] at ov484)
                refine tr_aload_n dX12_readAll_33 hl66 ?_
                refine tr_getR dX12_readAll_34 fl12_188 (kR15 hS478.1 ta0) d2 ?_
                obtain ⟨v492, c493⟩ : ∃ v, I470 a1 0 = v := ⟨_, rfl⟩
                have b494 := iv14_0 hS478.1 ta1 c493
                refine q_getI dX12_readAll_37 fl12_192 (kR14 hS478.1 ta1) c493 ?_
                refine q_if_eq 53 dX12_readAll_40 (by decide) (fun h495 => ?_) (fun h495 => ?_)
                · skip
                  refine tr_aload_n dX12_readAll_53 hl66 ?_
                  refine q_bipush dX12_readAll_54 (by decide +kernel) ?_
                  intro v496 h497
                  refine q_callVv hE (M' := mX12_flaw) (as := [_]) dX12_readAll_56 lk12_145 inX12_flaw seX12_flaw myX12_flaw (by decide) ⟨by decide, by decide⟩ rfl (kR15 hS478.1 ta0) (Nat.le_of_ble_eq_true rfl) rfl rfl (by decide) (by decide) (k_X12_flaw hS478.1 ta0 (by exact om_54a92a42 h497)) ?_
                  rintro cn' K' N' I498 R499 L500 ⟨rfl, rfl, rfl, rfl, rfl, g501, p503, p504, w505, -⟩
                  have hS506 := hS478.tr g501 (by decide +kernel) (by decide +kernel)
                  have c507 : I498 a0 8 = v452 := (g501.cell ta0 (by decide +kernel)).trans c479
                  have c508 : I498 a1 0 = v492 := (g501.cell ta1 (by decide +kernel)).trans c493
                  obtain ⟨v509, c510⟩ : ∃ v, I498 a0 9 = v := ⟨_, rfl⟩
                  have b511 := iv15_9 hS506.1 ta0 c510
                  rw [c510] at p503
                  rw [c507] at p504
                  rw [c479] at p504
                  have hO512 : FrO 14 a1 T I0 I498 := hO483.st g501 (by decide +kernel)
                  have ov513 := w505.over (by rw [c486]; exact om_394b70a2 ov484.1)
                  obtain ⟨v514, c515⟩ : ∃ v, I498 a0 9 = v := ⟨_, rfl⟩
                  have b516 := iv15_9 hS506.1 ta0 c515
                  obtain ⟨v517, c518⟩ : ∃ v, I498 a0 13 = v := ⟨_, rfl⟩
                  obtain ⟨v519, c520⟩ : ∃ v, I498 a0 14 = v := ⟨_, rfl⟩
                  (try rw [c515] at ov513)
                  (try rw [c518] at ov513)
                  (try rw [c520] at ov513)
                  (try rw [c486] at ov513)
                  (try rw [c489] at ov513)
                  (try rw [c491] at ov513)
                  obtain ⟨v521, c522⟩ : ∃ v, I498 a1 3 = v := ⟨_, rfl⟩
                  have b523 := iv14_3 hS506.1 ta1 c522
                  obtain ⟨v524, c525⟩ : ∃ v, I498 a1 5 = v := ⟨_, rfl⟩
                  have b526 := iv14_5 hS506.1 ta1 c525
                  obtain ⟨v527, c528⟩ : ∃ v, I498 a1 2 = v := ⟨_, rfl⟩
                  have b529 := iv14_2 hS506.1 ta1 c528
                  obtain ⟨v530, c531⟩ : ∃ v, I498 a1 1 = v := ⟨_, rfl⟩
                  have b532 := iv14_1 hS506.1 ta1 c531
                  obtain ⟨v533, c534⟩ : ∃ v, I498 a1 4 = v := ⟨_, rfl⟩
                  have b535 := iv14_4 hS506.1 ta1 c534
                  obtain ⟨v536, c537⟩ : ∃ v, I498 a1 6 = v := ⟨_, rfl⟩
                  have b538 := iv14_6 hS506.1 ta1 c537
                  exact tr_vret hZ dX12_readAll_59 rfl (by decide) (by decide) ⟨rfl, rfl, rfl, rfl, rfl, hS506, (fun b hb => (Option.some.inj (d2.symm.trans hb)) ▸ ((((rw138.tr (rp161 _ d2)).st g443 (by decide +kernel)).st g473 (by decide +kernel)).st g501 (by decide +kernel))), (fun dr hd => (Option.some.inj (d2.symm.trans hd)) ▸ hO512), (Or.inr (⟨(by rw [← g108]; simp only [lsF, ↓reduceIte]; exact om_c099efaa p186), (by (try rw [c515]); first | done | with_reducible assumption | exact om_394b70a2 ov513.1), (by (try rw [c518]); rw [← g108]; simp only [lsF, ↓reduceIte]; exact om_92221d8c p186 p188 ov456.2.1 ov484.2.1 ov513.2.1), (by (try rw [c520]); rw [← g109]; simp only [lsP, ↓reduceIte]; exact om_a331a627 p186 p189 ov456.2.2 ov484.2.2 ov513.2.2), trivial⟩)), trivial⟩
                · skip
                  refine tr_aload_n dX12_readAll_43 hl66 ?_
                  refine tr_getR dX12_readAll_44 fl12_188 (kR15 hS478.1 ta0) d2 ?_
                  obtain ⟨v539, c540⟩ : ∃ v, I470 a1 3 = v := ⟨_, rfl⟩
                  have b541 := iv14_3 hS478.1 ta1 c540
                  refine q_getI dX12_readAll_47 fl12_224 (kR14 hS478.1 ta1) c540 ?_
                  refine q_if_ne 59 dX12_readAll_50 (by decide) (fun h542 => ?_) (fun h542 => ?_)
                  · skip
                    obtain ⟨v543, c544⟩ : ∃ v, I470 a1 5 = v := ⟨_, rfl⟩
                    have b545 := iv14_5 hS478.1 ta1 c544
                    obtain ⟨v546, c547⟩ : ∃ v, I470 a1 2 = v := ⟨_, rfl⟩
                    have b548 := iv14_2 hS478.1 ta1 c547
                    obtain ⟨v549, c550⟩ : ∃ v, I470 a1 1 = v := ⟨_, rfl⟩
                    have b551 := iv14_1 hS478.1 ta1 c550
                    obtain ⟨v552, c553⟩ : ∃ v, I470 a1 4 = v := ⟨_, rfl⟩
                    have b554 := iv14_4 hS478.1 ta1 c553
                    obtain ⟨v555, c556⟩ : ∃ v, I470 a1 6 = v := ⟨_, rfl⟩
                    have b557 := iv14_6 hS478.1 ta1 c556
                    exact tr_vret hZ dX12_readAll_59 rfl (by decide) (by decide) ⟨rfl, rfl, rfl, rfl, rfl, hS478, (fun b hb => (Option.some.inj (d2.symm.trans hb)) ▸ (((rw138.tr (rp161 _ d2)).st g443 (by decide +kernel)).st g473 (by decide +kernel))), (fun dr hd => (Option.some.inj (d2.symm.trans hd)) ▸ hO483), (Or.inr (⟨(by rw [← g108]; simp only [lsF, ↓reduceIte]; exact om_c099efaa p186), (by (try rw [c486]); first | done | with_reducible assumption | exact om_394b70a2 ov484.1), (by (try rw [c489]); rw [← g108]; simp only [lsF, ↓reduceIte]; exact om_310f252e p186 p188 ov456.2.1 ov484.2.1), (by (try rw [c491]); rw [← g109]; simp only [lsP, ↓reduceIte]; exact om_7dc9dbd6 p186 p189 ov456.2.2 ov484.2.2), trivial⟩)), trivial⟩
                  · skip
                    refine tr_aload_n dX12_readAll_53 hl66 ?_
                    refine q_bipush dX12_readAll_54 (by decide +kernel) ?_
                    intro v558 h559
                    refine q_callVv hE (M' := mX12_flaw) (as := [_]) dX12_readAll_56 lk12_145 inX12_flaw seX12_flaw myX12_flaw (by decide) ⟨by decide, by decide⟩ rfl (kR15 hS478.1 ta0) (Nat.le_of_ble_eq_true rfl) rfl rfl (by decide) (by decide) (k_X12_flaw hS478.1 ta0 (by exact om_54a92a42 h559)) ?_
                    rintro cn' K' N' I560 R561 L562 ⟨rfl, rfl, rfl, rfl, rfl, g563, p565, p566, w567, -⟩
                    have hS568 := hS478.tr g563 (by decide +kernel) (by decide +kernel)
                    have c569 : I560 a0 8 = v452 := (g563.cell ta0 (by decide +kernel)).trans c479
                    have c570 : I560 a1 0 = v492 := (g563.cell ta1 (by decide +kernel)).trans c493
                    have c571 : I560 a1 3 = v539 := (g563.cell ta1 (by decide +kernel)).trans c540
                    obtain ⟨v572, c573⟩ : ∃ v, I560 a0 9 = v := ⟨_, rfl⟩
                    have b574 := iv15_9 hS568.1 ta0 c573
                    rw [c573] at p565
                    rw [c569] at p566
                    rw [c479] at p566
                    have hO575 : FrO 14 a1 T I0 I560 := hO483.st g563 (by decide +kernel)
                    have ov576 := w567.over (by rw [c486]; exact om_394b70a2 ov484.1)
                    obtain ⟨v577, c578⟩ : ∃ v, I560 a0 9 = v := ⟨_, rfl⟩
                    have b579 := iv15_9 hS568.1 ta0 c578
                    obtain ⟨v580, c581⟩ : ∃ v, I560 a0 13 = v := ⟨_, rfl⟩
                    obtain ⟨v582, c583⟩ : ∃ v, I560 a0 14 = v := ⟨_, rfl⟩
                    (try rw [c578] at ov576)
                    (try rw [c581] at ov576)
                    (try rw [c583] at ov576)
                    (try rw [c486] at ov576)
                    (try rw [c489] at ov576)
                    (try rw [c491] at ov576)
                    obtain ⟨v584, c585⟩ : ∃ v, I560 a1 5 = v := ⟨_, rfl⟩
                    have b586 := iv14_5 hS568.1 ta1 c585
                    obtain ⟨v587, c588⟩ : ∃ v, I560 a1 2 = v := ⟨_, rfl⟩
                    have b589 := iv14_2 hS568.1 ta1 c588
                    obtain ⟨v590, c591⟩ : ∃ v, I560 a1 1 = v := ⟨_, rfl⟩
                    have b592 := iv14_1 hS568.1 ta1 c591
                    obtain ⟨v593, c594⟩ : ∃ v, I560 a1 4 = v := ⟨_, rfl⟩
                    have b595 := iv14_4 hS568.1 ta1 c594
                    obtain ⟨v596, c597⟩ : ∃ v, I560 a1 6 = v := ⟨_, rfl⟩
                    have b598 := iv14_6 hS568.1 ta1 c597
                    exact tr_vret hZ dX12_readAll_59 rfl (by decide) (by decide) ⟨rfl, rfl, rfl, rfl, rfl, hS568, (fun b hb => (Option.some.inj (d2.symm.trans hb)) ▸ ((((rw138.tr (rp161 _ d2)).st g443 (by decide +kernel)).st g473 (by decide +kernel)).st g563 (by decide +kernel))), (fun dr hd => (Option.some.inj (d2.symm.trans hd)) ▸ hO575), (Or.inr (⟨(by rw [← g108]; simp only [lsF, ↓reduceIte]; exact om_c099efaa p186), (by (try rw [c578]); first | done | with_reducible assumption | exact om_394b70a2 ov576.1), (by (try rw [c581]); rw [← g108]; simp only [lsF, ↓reduceIte]; exact om_92221d8c p186 p188 ov456.2.1 ov484.2.1 ov576.2.1), (by (try rw [c583]); rw [← g109]; simp only [lsP, ↓reduceIte]; exact om_a331a627 p186 p189 ov456.2.2 ov484.2.2 ov576.2.2), trivial⟩)), trivial⟩
            · skip
              exfalso; exact om_1952d64c p187 h445.2 h445.1 p446 h464
  exact lp139 _ _ v63 I0 L0 (0) (901) (Q00) (E00) v61 v3 v8 v12 y15 v18 v21 v29 v33 v37 v41 v45 v49 v53 v57 rfl rfl hS0 hL0 hM0 hO0 c62 c4 c9 c13 c16 c19 c22 c30 c34 c38 c42 c46 c50 c54 c58 (by first | rfl | (congr 1; omega) | (congr 2 <;> omega)) (by first | rfl | (congr 1; omega) | (congr 2 <;> omega)) (by first | rfl | (congr 1; omega) | (congr 2 <;> omega)) (by first | rfl | (congr 1; omega) | (congr 2 <;> omega)) (by first | rfl | (congr 1; omega) | (congr 2 <;> omega)) (by first | rfl | (congr 1; omega) | (congr 2 <;> omega)) (by first | rfl | (congr 1; omega) | (congr 2 <;> omega)) (by first | rfl | (congr 1; omega) | (congr 2 <;> omega)) (by first | rfl | (congr 1; omega) | (congr 2 <;> omega)) (by first | rfl | (congr 1; omega) | (congr 2 <;> omega)) (by exact om_ee8a1e2d h64) (by exact om_bd931e74 b10.2 b10.1) (by exact om_4ee7209a) (by exact om_acd7a85a p6) (by exact om_fc4b6669 p7) (by exact om_acd7a85a p11) (by exact om_acd7a85a p14) (by assumption) (by assumption) (by assumption) (by exact om_acd7a85a p32) (by exact om_acd7a85a p36) (by exact om_acd7a85a p40) (by exact om_acd7a85a p44) (by exact om_acd7a85a p48) (by exact om_acd7a85a p52) (by exact om_acd7a85a p56) (by exact om_acd7a85a p60) (Or.inl ⟨rfl, rfl⟩) ⟨fun hz => AlM.z (congrArg Int32.toInt (hz 8)), rfl⟩ (FrM.rf (R := R0) (b := a1) (T := T)) (Nat.lt_succ_self _)
