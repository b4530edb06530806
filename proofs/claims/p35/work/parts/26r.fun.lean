set_option maxHeartbeats 4000000 in
theorem fk_X12_isWord {l : Launch} {T : Nat → Nat} {cn : Nat} {K N : Nat → Nat} {I0 : cz_I} {R0 : cz_R} {L0 : cz_L} {d : Int} (hW0 : Wf T cn K N I0 R0 d) (gB : cz_B) (gs : Int) {a0 : Nat} (ta0 : T a0 = 15) {u1 : UInt32} (hu1 : u1.toNat < cz_NS) (pre0 : (I0 a0 9).toInt = (tkM gB gs)) (pre1 : (AtW ((tkK gB gs)) ((L0 a0 15).toInt) ((tkW gB gs)))) : ConE l mX12_isWord [.ref a0, .float u1] cn K N I0 R0 L0 (ca_i (fun v cn' K' N' I' R' L' => cn = cn' ∧ K = K' ∧ N = N' ∧ I0 = I' ∧ R0 = R' ∧ L0 = L' ∧ (0 ≤ v.toInt ∧ v.toInt ≤ 1) ∧ (((v.toInt = 1) ∧ ((tkK gB gs) = 1) ∧ ((tkW gB gs) = (pkI u1)) ∧ True) ∨ ((v.toInt = 0) ∧ ((NotW ((tkK gB gs)) ((tkW gB gs)) ((pkI u1)))) ∧ True)) ∧ True)) := by
  refine ConE.of (by decide +kernel) rfl (Nat.le_of_ble_eq_true rfl) rfl (fun X hX hZ hE => ?_)
  subst hX
  obtain ⟨v1, c2⟩ : ∃ v, I0 a0 9 = v := ⟨_, rfl⟩
  have b3 := iv15_9 hW0 ta0 c2
  have p4 := pre0
  rw [c2] at p4
  obtain ⟨y5, c6⟩ : ∃ v, L0 a0 15 = v := ⟨_, rfl⟩
  have p7 := pre1
  rw [c6] at p7
  have ht8 := tkM_of gB gs
  refine tr_aload_n dX12_isWord_0 rfl ?_
  refine q_getI dX12_isWord_1 fl12_99 (kR15 hW0 ta0) c2 ?_
  refine q_iconst dX12_isWord_4 (by decide) ?_
  intro v9 h10
  refine q_icmp_ne 24 dX12_isWord_5 (by decide) (fun h11 => ?_) (fun h11 => ?_)
  · skip
    refine q_iconst dX12_isWord_24 (by decide) ?_
    intro v12 h13
    exact tr_zret hZ dX12_isWord_25 rfl (ti_b01 (by exact om_d99fa9e4 h13) (by exact om_d3de7ec9 h13)) (by decide) (by decide) ⟨v12, rfl, rfl, rfl, rfl, rfl, rfl, rfl, (by exact om_3b50ecb9 h13), (Or.inr (⟨(by first | done | with_reducible assumption | omega), (by unfold NotW; exact om_2c30646a p4 ht8 h10 h11), trivial⟩)), trivial⟩
  · skip
    refine tr_aload_n dX12_isWord_8 rfl ?_
    have p14 := p7 (by exact om_fdf7578a p4 ht8 h10 h11)
    refine q_getLE dX12_isWord_9 fl12_118 (kR15 hW0 ta0) c6 ?_
    refine tr_aload_nS dX12_isWord_12 rfl ?_
    refine q_callSl hE (M' := mX12_wordOf) (as := [_]) dX12_isWord_13 lk12_134 inX12_wordOf myX12_wordOf ⟨by decide, by decide⟩ rfl (Nat.le_of_ble_eq_true rfl) rfl rfl (by decide) (by decide) (f_X12_wordOf   hu1) ?_
    rintro y20 cn' K' N' I15 R16 L17 ⟨rfl, rfl, rfl, rfl, rfl, rfl, p21, -⟩
    refine q_lcmpNe 24 dX12_isWord_16 dX12_isWord_17 (by decide) (fun h22 => ?_) (fun h22 => ?_)
    · skip
      refine q_iconst dX12_isWord_24 (by decide) ?_
      intro v23 h24
      exact tr_zret hZ dX12_isWord_25 rfl (ti_b01 (by exact om_d99fa9e4 h24) (by exact om_d3de7ec9 h24)) (by decide) (by decide) ⟨v23, rfl, rfl, rfl, rfl, rfl, rfl, rfl, (by exact om_3b50ecb9 h24), (Or.inr (⟨(by first | done | with_reducible assumption | omega), (by unfold NotW; exact om_59ac56e5 p14 p21 h22), trivial⟩)), trivial⟩
    · skip
      refine q_iconst dX12_isWord_20 (by decide) ?_
      intro v25 h26
      refine tr_goto 25 dX12_isWord_21 (by decide) ?_
      exact tr_zret hZ dX12_isWord_25 rfl (ti_b01 (by exact om_f9079521 h26) (by exact om_e6632817 h26)) (by decide) (by decide) ⟨v25, rfl, rfl, rfl, rfl, rfl, rfl, rfl, (by exact om_d753bc65 h26), (Or.inl ⟨(by first | done | with_reducible assumption | omega), (by first | done | with_reducible assumption | exact om_fdf7578a p4 ht8 h10 h11), (by first | done | with_reducible assumption | exact om_57afb6b5 p14 p21 h22), trivial⟩), trivial⟩
def wik_X12_eatsWord : List Nat := [968, 969, 970, 971, 972]
def wrk_X12_eatsWord : List Nat := []
def wlk_X12_eatsWord : List Nat := [975]
set_option maxHeartbeats 4000000 in
theorem fk_X12_eatsWord {l : Launch} {T : Nat → Nat} {cn : Nat} {K N : Nat → Nat} {I0 : cz_I} {R0 : cz_R} {L0 : cz_L} {d : Int} (hW0 : Wf T cn K N I0 R0 d) (gB : cz_B) (gs : Int) {a0 : Nat} (ta0 : T a0 = 15) {u1 : UInt32} (hu1 : u1.toNat < cz_NS) (hT : ∀ t, R0 a0 5 = some t → Tx I0 t gB) (pre0 : (I0 a0 9).toInt = (tkM gB gs)) (pre1 : (I0 a0 9).toInt ≤ 4) (pre2 : (I0 a0 10).toInt = (tkS gB gs)) (pre3 : (I0 a0 11).toInt = (tkG gB gs)) (pre4 : (AtW ((tkK gB gs)) ((L0 a0 15).toInt) ((tkW gB gs)))) (pre5 : (AtV ((tkK gB gs)) ((I0 a0 12).toInt) ((tkV gB gs)))) (pre6 : (AtN ((tkK gB gs)) ((I0 a0 8).toInt) ((tkN gB gs)))) (pre7 : (I0 a0 7).toInt = (gB.2)) : ConE l mX12_eatsWord [.ref a0, .float u1] cn K N I0 R0 L0 (ca_i (fun v cn' K' N' I' R' L' => cn = cn' ∧ K = K' ∧ N = N' ∧ R0 = R' ∧ St T cn K N d wik_X12_eatsWord wrk_X12_eatsWord I0 R0 I' R0 ∧ LgS T wlk_X12_eatsWord L0 L' ∧ (0 ≤ v.toInt ∧ v.toInt ≤ 1) ∧ (((v.toInt = 1) ∧ ((tkK gB gs) = 1) ∧ ((tkW gB gs) = (pkI u1)) ∧ ((I' a0 13).toInt = (I0 a0 13).toInt) ∧ ((I' a0 9).toInt = (tkM gB (tkN gB gs))) ∧ ((I' a0 9).toInt ≤ 4) ∧ ((I' a0 10).toInt = (tkS gB (tkN gB gs))) ∧ ((I' a0 11).toInt = (tkG gB (tkN gB gs))) ∧ ((AtW ((tkK gB (tkN gB gs))) ((L' a0 15).toInt) ((tkW gB (tkN gB gs))))) ∧ ((AtV ((tkK gB (tkN gB gs))) ((I' a0 12).toInt) ((tkV gB (tkN gB gs))))) ∧ ((AtN ((tkK gB (tkN gB gs))) ((I' a0 8).toInt) ((tkN gB (tkN gB gs))))) ∧ True) ∨ ((v.toInt = 0) ∧ ((NotW ((tkK gB gs)) ((tkW gB gs)) ((pkI u1)))) ∧ ((I' a0 13).toInt = (I0 a0 13).toInt) ∧ ((I' a0 9).toInt = (tkM gB gs)) ∧ ((I' a0 9).toInt ≤ 4) ∧ ((I' a0 10).toInt = (tkS gB gs)) ∧ ((I' a0 11).toInt = (tkG gB gs)) ∧ ((AtW ((tkK gB gs)) ((L' a0 15).toInt) ((tkW gB gs)))) ∧ ((AtV ((tkK gB gs)) ((I' a0 12).toInt) ((tkV gB gs)))) ∧ ((AtN ((tkK gB gs)) ((I' a0 8).toInt) ((tkN gB gs)))) ∧ True)) ∧ True)) := by
  refine ConE.of (by decide +kernel) rfl (Nat.le_of_ble_eq_true rfl) rfl (fun X hX hZ hE => ?_)
  subst hX
  have hS0 : St T cn K N d wik_X12_eatsWord wrk_X12_eatsWord I0 R0 I0 R0 := St.rf0 hW0
  have hL0 : LgS T wlk_X12_eatsWord L0 L0 := LgS.rf0
  obtain ⟨v1, c2⟩ : ∃ v, I0 a0 9 = v := ⟨_, rfl⟩
  have b3 := iv15_9 hS0.1 ta0 c2
  have p4 := pre0
  rw [c2] at p4
  have p5 := pre1
  rw [c2] at p5
  obtain ⟨v6, c7⟩ : ∃ v, I0 a0 10 = v := ⟨_, rfl⟩
  have b8 := iv15_10 hS0.1 ta0 c7
  have p9 := pre2
  rw [c7] at p9
  obtain ⟨v10, c11⟩ : ∃ v, I0 a0 11 = v := ⟨_, rfl⟩
  have p12 := pre3
  rw [c11] at p12
  obtain ⟨y13, c14⟩ : ∃ v, L0 a0 15 = v := ⟨_, rfl⟩
  have p15 := pre4
  rw [c14] at p15
  obtain ⟨v16, c17⟩ : ∃ v, I0 a0 12 = v := ⟨_, rfl⟩
  have p18 := pre5
  rw [c17] at p18
  obtain ⟨v19, c20⟩ : ∃ v, I0 a0 8 = v := ⟨_, rfl⟩
  have b21 := iv15_8 hS0.1 ta0 c20
  have p22 := pre6
  rw [c20] at p22
  obtain ⟨v23, c24⟩ : ∃ v, I0 a0 7 = v := ⟨_, rfl⟩
  have b25 := iv15_7 hW0 ta0 c24
  have p26 := pre7
  rw [c24] at p26
  obtain ⟨v27, c28⟩ : ∃ v, I0 a0 13 = v := ⟨_, rfl⟩
  refine tr_aload_n dX12_eatsWord_0 rfl ?_
  refine tr_aload_nS dX12_eatsWord_1 rfl ?_
  refine q_callVi hE (M' := mX12_isWord) (as := [_]) dX12_eatsWord_2 lk12_138 inX12_isWord seX12_isWord myX12_isWord (by decide) ⟨by decide, by decide⟩ rfl (kR15 hS0.1 ta0) (Nat.le_of_ble_eq_true rfl) rfl rfl (by decide) (by decide) (fk_X12_isWord hS0.1 (gB) (gs) ta0 hu1 (by (try rw [c2]); first | done | with_reducible assumption | omega) (by (try rw [c14]); first | done | assumption)) ?_
  rintro v34 cn' K' N' I29 R30 L31 ⟨rfl, rfl, rfl, rfl, rfl, rfl, h35, dj36, -⟩
  rcases dj36 with ⟨p37, p38, p39, -⟩ | ⟨p40, p41, -⟩
  · skip
    refine tr_istore_n dX12_eatsWord_5 (by decide) (by decide) ?_
    refine tr_iload_n dX12_eatsWord_6 rfl ?_
    refine q_if_eq 14 dX12_eatsWord_7 (by decide) (fun h42 => ?_) (fun h42 => ?_)
    · skip
      exfalso; exact om_3624102b p37 h42
    · skip
      refine tr_aload_n dX12_eatsWord_10 rfl ?_
      have p43 := p22 (by exact om_e0d38eff p38)
      refine q_callVv hE (M' := mX12_goesOn) (as := []) dX12_eatsWord_11 lk12_142 inX12_goesOn seX12_goesOn myX12_goesOn (by decide) ⟨by decide, by decide⟩ rfl (kR15 hS0.1 ta0) (Nat.le_of_ble_eq_true rfl) rfl rfl (by decide) (by decide) (fk_X12_goesOn hS0.1 (gB) ((tkN gB gs)) ta0 (TxA.kp hT hS0 ta0 rfl rfl rfl (by decide +kernel) (by decide +kernel)) (by (try rw [c20]); first | done | with_reducible assumption | omega) (by (try rw [c24]); first | done | with_reducible assumption | omega) (by (try rw [c2]); first | done | with_reducible assumption | exact om_df98ac7c pre0 pre1 b3.2 b3.1 p4)) ?_
      rintro cn' K' N' I44 R45 L46 ⟨rfl, rfl, rfl, rfl, g47, gl48, p50, p51, p52, p53, p54, p55, p56, -⟩
      have hS57 := hS0.tr g47 (by decide +kernel) (by decide +kernel)
      have hL58 := hL0.tr gl48 (by decide +kernel)
      obtain ⟨v59, c60⟩ : ∃ v, I44 a0 9 = v := ⟨_, rfl⟩
      have b61 := iv15_9 hS57.1 ta0 c60
      rw [c60] at p50
      rw [c60] at p51
      obtain ⟨v62, c63⟩ : ∃ v, I44 a0 10 = v := ⟨_, rfl⟩
      have b64 := iv15_10 hS57.1 ta0 c63
      rw [c63] at p52
      obtain ⟨v65, c66⟩ : ∃ v, I44 a0 11 = v := ⟨_, rfl⟩
      rw [c66] at p53
      obtain ⟨y67, c68⟩ : ∃ v, L46 a0 15 = v := ⟨_, rfl⟩
      rw [c68] at p54
      obtain ⟨v69, c70⟩ : ∃ v, I44 a0 12 = v := ⟨_, rfl⟩
      rw [c70] at p55
      obtain ⟨v71, c72⟩ : ∃ v, I44 a0 8 = v := ⟨_, rfl⟩
      have b73 := iv15_8 hS57.1 ta0 c72
      rw [c72] at p56
      refine tr_iload_n dX12_eatsWord_14 rfl ?_
      exact tr_zret hZ dX12_eatsWord_15 rfl (ti_b01 (by exact om_f9079521 p37) (by exact om_e6632817 p37)) (by decide) (by decide) ⟨v34, rfl, rfl, rfl, rfl, rfl, hS57, hL58, (by exact om_be53a44c h35), (Or.inl ⟨(by first | done | with_reducible assumption | omega), (by first | done | with_reducible assumption | omega), (by first | done | with_reducible assumption | omega), (by (try rw [((hS57.cell ta0 (by decide +kernel)).trans c28)]); (try rw [c28]); first | done | with_reducible assumption | omega), (by (try rw [c60]); first | done | with_reducible assumption | omega), (by (try rw [c60]); first | done | with_reducible assumption | omega), (by (try rw [c63]); first | done | with_reducible assumption | omega), (by (try rw [c66]); first | done | with_reducible assumption | omega), (by (try rw [c68]); first | done | assumption), (by (try rw [c70]); first | done | assumption), (by (try rw [c72]); first | done | assumption), trivial⟩), trivial⟩
  · skip
    refine tr_istore_n dX12_eatsWord_5 (by decide) (by decide) ?_
    refine tr_iload_n dX12_eatsWord_6 rfl ?_
    refine q_if_eq 14 dX12_eatsWord_7 (by decide) (fun h74 => ?_) (fun h74 => ?_)
    · skip
      refine tr_iload_n dX12_eatsWord_14 rfl ?_
      exact tr_zret hZ dX12_eatsWord_15 rfl (ti_b01 (by exact om_d99fa9e4 p40) (by exact om_d3de7ec9 p40)) (by decide) (by decide) ⟨v34, rfl, rfl, rfl, rfl, rfl, hS0, hL0, (by exact om_be53a44c h35), (Or.inr (⟨(by first | done | with_reducible assumption | omega), (by first | done | assumption), (by (try rw [c28]); first | done | with_reducible assumption | omega), (by (try rw [c2]); first | done | with_reducible assumption | omega), (by (try rw [c2]); first | done | with_reducible assumption | omega), (by (try rw [c7]); first | done | with_reducible assumption | omega), (by (try rw [c11]); first | done | with_reducible assumption | omega), (by (try rw [c14]); first | done | assumption), (by (try rw [c17]); first | done | assumption), (by (try rw [c20]); first | done | assumption), trivial⟩)), trivial⟩
    · skip
      exfalso; exact om_3a97d4a5 p40 h74
def wik_X12_eatsSign : List Nat := [968, 969, 970, 971, 972]
def wrk_X12_eatsSign : List Nat := []
def wlk_X12_eatsSign : List Nat := [975]
set_option maxHeartbeats 4000000 in
theorem fk_X12_eatsSign {l : Launch} {T : Nat → Nat} {cn : Nat} {K N : Nat → Nat} {I0 : cz_I} {R0 : cz_R} {L0 : cz_L} {d : Int} (hW0 : Wf T cn K N I0 R0 d) (gB : cz_B) (gs : Int) {a0 : Nat} (ta0 : T a0 = 15) {x1 : Int32} (hT : ∀ t, R0 a0 5 = some t → Tx I0 t gB) (pre0 : (I0 a0 9).toInt = (tkM gB gs)) (pre1 : (I0 a0 9).toInt ≤ 4) (pre2 : (I0 a0 10).toInt = (tkS gB gs)) (pre3 : (I0 a0 11).toInt = (tkG gB gs)) (pre4 : (AtW ((tkK gB gs)) ((L0 a0 15).toInt) ((tkW gB gs)))) (pre5 : (AtV ((tkK gB gs)) ((I0 a0 12).toInt) ((tkV gB gs)))) (pre6 : (AtN ((tkK gB gs)) ((I0 a0 8).toInt) ((tkN gB gs)))) (pre7 : (I0 a0 7).toInt = (gB.2)) (pre8 : (x1.toInt = 59 ∨ x1.toInt = 44)) : ConE l mX12_eatsSign [.ref a0, .int x1] cn K N I0 R0 L0 (ca_i (fun v cn' K' N' I' R' L' => cn = cn' ∧ K = K' ∧ N = N' ∧ R0 = R' ∧ St T cn K N d wik_X12_eatsSign wrk_X12_eatsSign I0 R0 I' R0 ∧ LgS T wlk_X12_eatsSign L0 L' ∧ (0 ≤ v.toInt ∧ v.toInt ≤ 1) ∧ (((v.toInt = 1) ∧ (15 * (tkK gB gs) = -x1.toInt + 104) ∧ ((I' a0 13).toInt = (I0 a0 13).toInt) ∧ ((I' a0 9).toInt = (tkM gB (tkN gB gs))) ∧ ((I' a0 9).toInt ≤ 4) ∧ ((I' a0 10).toInt = (tkS gB (tkN gB gs))) ∧ ((I' a0 11).toInt = (tkG gB (tkN gB gs))) ∧ ((AtW ((tkK gB (tkN gB gs))) ((L' a0 15).toInt) ((tkW gB (tkN gB gs))))) ∧ ((AtV ((tkK gB (tkN gB gs))) ((I' a0 12).toInt) ((tkV gB (tkN gB gs))))) ∧ ((AtN ((tkK gB (tkN gB gs))) ((I' a0 8).toInt) ((tkN gB (tkN gB gs))))) ∧ True) ∨ ((v.toInt = 0) ∧ (15 * (tkK gB gs) ≠ -x1.toInt + 104) ∧ ((I' a0 13).toInt = (I0 a0 13).toInt) ∧ ((I' a0 9).toInt = (tkM gB gs)) ∧ ((I' a0 9).toInt ≤ 4) ∧ ((I' a0 10).toInt = (tkS gB gs)) ∧ ((I' a0 11).toInt = (tkG gB gs)) ∧ ((AtW ((tkK gB gs)) ((L' a0 15).toInt) ((tkW gB gs)))) ∧ ((AtV ((tkK gB gs)) ((I' a0 12).toInt) ((tkV gB gs)))) ∧ ((AtN ((tkK gB gs)) ((I' a0 8).toInt) ((tkN gB gs)))) ∧ True)) ∧ True)) := by
  refine ConE.of (by decide +kernel) rfl (Nat.le_of_ble_eq_true rfl) rfl (fun X hX hZ hE => ?_)
  subst hX
  have hS0 : St T cn K N d wik_X12_eatsSign wrk_X12_eatsSign I0 R0 I0 R0 := St.rf0 hW0
  have hL0 : LgS T wlk_X12_eatsSign L0 L0 := LgS.rf0
  obtain ⟨v1, c2⟩ : ∃ v, I0 a0 9 = v := ⟨_, rfl⟩
  have b3 := iv15_9 hS0.1 ta0 c2
  have p4 := pre0
  rw [c2] at p4
  have p5 := pre1
  rw [c2] at p5
  obtain ⟨v6, c7⟩ : ∃ v, I0 a0 10 = v := ⟨_, rfl⟩
  have b8 := iv15_10 hS0.1 ta0 c7
  have p9 := pre2
  rw [c7] at p9
  obtain ⟨v10, c11⟩ : ∃ v, I0 a0 11 = v := ⟨_, rfl⟩
  have p12 := pre3
  rw [c11] at p12
  obtain ⟨y13, c14⟩ : ∃ v, L0 a0 15 = v := ⟨_, rfl⟩
  have p15 := pre4
  rw [c14] at p15
  obtain ⟨v16, c17⟩ : ∃ v, I0 a0 12 = v := ⟨_, rfl⟩
  have p18 := pre5
  rw [c17] at p18
  obtain ⟨v19, c20⟩ : ∃ v, I0 a0 8 = v := ⟨_, rfl⟩
  have b21 := iv15_8 hS0.1 ta0 c20
  have p22 := pre6
  rw [c20] at p22
  obtain ⟨v23, c24⟩ : ∃ v, I0 a0 7 = v := ⟨_, rfl⟩
  have b25 := iv15_7 hW0 ta0 c24
  have p26 := pre7
  rw [c24] at p26
  have p27 := pre8
  have ht28 := tkM_of gB gs
  obtain ⟨v29, c30⟩ : ∃ v, I0 a0 13 = v := ⟨_, rfl⟩
  refine tr_aload_n dX12_eatsSign_0 rfl ?_
  refine q_getI dX12_eatsSign_1 fl12_99 (kR15 hS0.1 ta0) c2 ?_
  refine q_iconst dX12_eatsSign_4 (by decide) ?_
  intro v31 h32
  refine q_icmp_ne 20 dX12_eatsSign_5 (by decide) (fun h33 => ?_) (fun h33 => ?_)
  · skip
    refine q_iconst dX12_eatsSign_20 (by decide) ?_
    intro v34 h35
    refine tr_istore_n dX12_eatsSign_21 (by decide) (by decide) ?_
    refine tr_iload_n dX12_eatsSign_22 rfl ?_
    refine q_if_eq 30 dX12_eatsSign_23 (by decide) (fun h36 => ?_) (fun h36 => ?_)
    · skip
      refine tr_iload_n dX12_eatsSign_30 rfl ?_
      exact tr_zret hZ dX12_eatsSign_31 rfl (ti_b01 (by exact om_d99fa9e4 h35) (by exact om_d3de7ec9 h35)) (by decide) (by decide) ⟨v34, rfl, rfl, rfl, rfl, rfl, hS0, hL0, (by exact om_3b50ecb9 h35), (Or.inr (⟨(by first | done | with_reducible assumption | omega), (by first | done | with_reducible assumption | exact om_a994f616 pre0 pre1 b3.2 b3.1 p4 p27 ht28 h32 h33), (by (try rw [c30]); first | done | with_reducible assumption | omega), (by (try rw [c2]); first | done | with_reducible assumption | omega), (by (try rw [c2]); first | done | with_reducible assumption | omega), (by (try rw [c7]); first | done | with_reducible assumption | omega), (by (try rw [c11]); first | done | with_reducible assumption | omega), (by (try rw [c14]); first | done | assumption), (by (try rw [c17]); first | done | assumption), (by (try rw [c20]); first | done | assumption), trivial⟩)), trivial⟩
    · skip
      exfalso; exact om_3a97d4a5 h35 h36
  · skip
    refine tr_aload_n dX12_eatsSign_8 rfl ?_
    refine q_getI dX12_eatsSign_9 fl12_111 (kR15 hS0.1 ta0) c11 ?_
    refine tr_iload_n dX12_eatsSign_12 rfl ?_
    refine q_icmp_ne 20 dX12_eatsSign_13 (by decide) (fun h37 => ?_) (fun h37 => ?_)
    · skip
      refine q_iconst dX12_eatsSign_20 (by decide) ?_
      intro v38 h39
      refine tr_istore_n dX12_eatsSign_21 (by decide) (by decide) ?_
      refine tr_iload_n dX12_eatsSign_22 rfl ?_
      refine q_if_eq 30 dX12_eatsSign_23 (by decide) (fun h40 => ?_) (fun h40 => ?_)
      · skip
        refine tr_iload_n dX12_eatsSign_30 rfl ?_
        exact tr_zret hZ dX12_eatsSign_31 rfl (ti_b01 (by exact om_d99fa9e4 h39) (by exact om_d3de7ec9 h39)) (by decide) (by decide) ⟨v38, rfl, rfl, rfl, rfl, rfl, hS0, hL0, (by exact om_3b50ecb9 h39), (Or.inr (⟨(by first | done | with_reducible assumption | omega), (by first | done | with_reducible assumption | exact om_828356db p4 p12 ht28 h32 h33 h37), (by (try rw [c30]); first | done | with_reducible assumption | omega), (by (try rw [c2]); first | done | with_reducible assumption | omega), (by (try rw [c2]); first | done | with_reducible assumption | omega), (by (try rw [c7]); first | done | with_reducible assumption | omega), (by (try rw [c11]); first | done | with_reducible assumption | omega), (by (try rw [c14]); first | done | assumption), (by (try rw [c17]); first | done | assumption), (by (try rw [c20]); first | done | assumption), trivial⟩)), trivial⟩
      · skip
        exfalso; exact om_3a97d4a5 h39 h40
    · skip
      refine q_iconst dX12_eatsSign_16 (by decide) ?_
      intro v41 h42
      refine tr_goto 21 dX12_eatsSign_17 (by decide) ?_
      refine tr_istore_n dX12_eatsSign_21 (by decide) (by decide) ?_
      refine tr_iload_n dX12_eatsSign_22 rfl ?_
      refine q_if_eq 30 dX12_eatsSign_23 (by decide) (fun h43 => ?_) (fun h43 => ?_)
      · skip
        exfalso; exact om_3624102b h42 h43
      · skip
        refine tr_aload_n dX12_eatsSign_26 rfl ?_
        have p44 := p22 (by exact om_b3a9d446 p4 ht28 h32 h33 h42 h43)
        refine q_callVv hE (M' := mX12_goesOn) (as := []) dX12_eatsSign_27 lk12_142 inX12_goesOn seX12_goesOn myX12_goesOn (by decide) ⟨by decide, by decide⟩ rfl (kR15 hS0.1 ta0) (Nat.le_of_ble_eq_true rfl) rfl rfl (by decide) (by decide) (fk_X12_goesOn hS0.1 (gB) ((tkN gB gs)) ta0 (TxA.kp hT hS0 ta0 rfl rfl rfl (by decide +kernel) (by decide +kernel)) (by (try rw [c20]); first | done | with_reducible assumption | omega) (by (try rw [c24]); first | done | with_reducible assumption | omega) (by (try rw [c2]); first | done | with_reducible assumption | exact om_05443cd7 h32 h33)) ?_
        rintro cn' K' N' I45 R46 L47 ⟨rfl, rfl, rfl, rfl, g48, gl49, p51, p52, p53, p54, p55, p56, p57, -⟩
        have hS58 := hS0.tr g48 (by decide +kernel) (by decide +kernel)
        have hL59 := hL0.tr gl49 (by decide +kernel)
        obtain ⟨v60, c61⟩ : ∃ v, I45 a0 9 = v := ⟨_, rfl⟩
        have b62 := iv15_9 hS58.1 ta0 c61
        rw [c61] at p51
        rw [c61] at p52
        obtain ⟨v63, c64⟩ : ∃ v, I45 a0 10 = v := ⟨_, rfl⟩
        have b65 := iv15_10 hS58.1 ta0 c64
        rw [c64] at p53
        obtain ⟨v66, c67⟩ : ∃ v, I45 a0 11 = v := ⟨_, rfl⟩
        rw [c67] at p54
        obtain ⟨y68, c69⟩ : ∃ v, L47 a0 15 = v := ⟨_, rfl⟩
        rw [c69] at p55
        obtain ⟨v70, c71⟩ : ∃ v, I45 a0 12 = v := ⟨_, rfl⟩
        rw [c71] at p56
        obtain ⟨v72, c73⟩ : ∃ v, I45 a0 8 = v := ⟨_, rfl⟩
        have b74 := iv15_8 hS58.1 ta0 c73
        rw [c73] at p57
        refine tr_iload_n dX12_eatsSign_30 rfl ?_
        exact tr_zret hZ dX12_eatsSign_31 rfl (ti_b01 (by exact om_f9079521 h42) (by exact om_e6632817 h42)) (by decide) (by decide) ⟨v41, rfl, rfl, rfl, rfl, rfl, hS58, hL59, (by exact om_d753bc65 h42), (Or.inl ⟨(by first | done | with_reducible assumption | omega), (by first | done | with_reducible assumption | exact om_69c86af6 p4 p12 ht28 h32 h33 h37 h42 h43), (by (try rw [((hS58.cell ta0 (by decide +kernel)).trans c30)]); (try rw [c30]); first | done | with_reducible assumption | omega), (by (try rw [c61]); first | done | with_reducible assumption | omega), (by (try rw [c61]); first | done | with_reducible assumption | omega), (by (try rw [c64]); first | done | with_reducible assumption | omega), (by (try rw [c67]); first | done | with_reducible assumption | omega), (by (try rw [c69]); first | done | assumption), (by (try rw [c71]); first | done | assumption), (by (try rw [c73]); first | done | assumption), trivial⟩), trivial⟩
def wik_X12_needs : List Nat := [968, 969, 970, 971, 972, 973, 974]
def wrk_X12_needs : List Nat := []
def wlk_X12_needs : List Nat := [975]
set_option maxHeartbeats 4000000 in
theorem fk_X12_needs {l : Launch} {T : Nat → Nat} {cn : Nat} {K N : Nat → Nat} {I0 : cz_I} {R0 : cz_R} {L0 : cz_L} {d : Int} (hW0 : Wf T cn K N I0 R0 d) (gB : cz_B) (gs : Int) {a0 : Nat} (ta0 : T a0 = 15) {u1 : UInt32} (hu1 : u1.toNat < cz_NS) (hT : ∀ t, R0 a0 5 = some t → Tx I0 t gB) (pre0 : (I0 a0 9).toInt = (tkM gB gs)) (pre1 : (I0 a0 9).toInt ≤ 4) (pre2 : (I0 a0 10).toInt = (tkS gB gs)) (pre3 : (I0 a0 11).toInt = (tkG gB gs)) (pre4 : (AtW ((tkK gB gs)) ((L0 a0 15).toInt) ((tkW gB gs)))) (pre5 : (AtV ((tkK gB gs)) ((I0 a0 12).toInt) ((tkV gB gs)))) (pre6 : (AtN ((tkK gB gs)) ((I0 a0 8).toInt) ((tkN gB gs)))) (pre7 : (I0 a0 7).toInt = (gB.2)) : ConE l mX12_needs [.ref a0, .float u1] cn K N I0 R0 L0 (ca_v (fun cn' K' N' I' R' L' => cn = cn' ∧ K = K' ∧ N = N' ∧ R0 = R' ∧ St T cn K N d wik_X12_needs wrk_X12_needs I0 R0 I' R0 ∧ ((((tkK gB gs) = 1) ∧ ((tkW gB gs) = (pkI u1)) ∧ ((I' a0 13).toInt = (I0 a0 13).toInt) ∧ ((I' a0 9).toInt = (tkM gB (tkN gB gs))) ∧ ((I' a0 9).toInt ≤ 4) ∧ ((I' a0 10).toInt = (tkS gB (tkN gB gs))) ∧ ((I' a0 11).toInt = (tkG gB (tkN gB gs))) ∧ ((AtW ((tkK gB (tkN gB gs))) ((L' a0 15).toInt) ((tkW gB (tkN gB gs))))) ∧ ((AtV ((tkK gB (tkN gB gs))) ((I' a0 12).toInt) ((tkV gB (tkN gB gs))))) ∧ ((AtN ((tkK gB (tkN gB gs))) ((I' a0 8).toInt) ((tkN gB (tkN gB gs))))) ∧ LgS T wlk_X12_needs L0 L' ∧ True) ∨ ((((tkK gB gs) ≠ 1 ∨ (tkW gB gs) ≠ (pkI u1))) ∧ ((I' a0 9).toInt = 5) ∧ ((I' a0 13).toInt = 1) ∧ ((I' a0 14).toInt = (tkS gB gs)) ∧ True)) ∧ True)) := by
  refine ConE.of (by decide +kernel) rfl (Nat.le_of_ble_eq_true rfl) rfl (fun X hX hZ hE => ?_)
  subst hX
  have hS0 : St T cn K N d wik_X12_needs wrk_X12_needs I0 R0 I0 R0 := St.rf0 hW0
  have hL0 : LgS T wlk_X12_needs L0 L0 := LgS.rf0
  obtain ⟨v1, c2⟩ : ∃ v, I0 a0 9 = v := ⟨_, rfl⟩
  have b3 := iv15_9 hS0.1 ta0 c2
  have p4 := pre0
  rw [c2] at p4
  have p5 := pre1
  rw [c2] at p5
  obtain ⟨v6, c7⟩ : ∃ v, I0 a0 10 = v := ⟨_, rfl⟩
  have b8 := iv15_10 hS0.1 ta0 c7
  have p9 := pre2
  rw [c7] at p9
  obtain ⟨v10, c11⟩ : ∃ v, I0 a0 11 = v := ⟨_, rfl⟩
  have p12 := pre3
  rw [c11] at p12
  obtain ⟨y13, c14⟩ : ∃ v, L0 a0 15 = v := ⟨_, rfl⟩
  have p15 := pre4
  rw [c14] at p15
  obtain ⟨v16, c17⟩ : ∃ v, I0 a0 12 = v := ⟨_, rfl⟩
  have p18 := pre5
  rw [c17] at p18
  obtain ⟨v19, c20⟩ : ∃ v, I0 a0 8 = v := ⟨_, rfl⟩
  have b21 := iv15_8 hS0.1 ta0 c20
  have p22 := pre6
  rw [c20] at p22
  obtain ⟨v23, c24⟩ : ∃ v, I0 a0 7 = v := ⟨_, rfl⟩
  have b25 := iv15_7 hW0 ta0 c24
  have p26 := pre7
  rw [c24] at p26
  obtain ⟨v27, c28⟩ : ∃ v, I0 a0 13 = v := ⟨_, rfl⟩
  refine tr_aload_n dX12_needs_0 rfl ?_
  refine tr_aload_nS dX12_needs_1 rfl ?_
  refine q_callVi hE (M' := mX12_isWord) (as := [_]) dX12_needs_2 lk12_138 inX12_isWord seX12_isWord myX12_isWord (by decide) ⟨by decide, by decide⟩ rfl (kR15 hS0.1 ta0) (Nat.le_of_ble_eq_true rfl) rfl rfl (by decide) (by decide) (fk_X12_isWord hS0.1 (gB) (gs) ta0 hu1 (by (try rw [c2]); first | done | with_reducible assumption | omega) (by (try rw [c14]); first | done | assumption)) ?_
  rintro v34 cn' K' N' I29 R30 L31 ⟨rfl, rfl, rfl, rfl, rfl, rfl, h35, dj36, -⟩
  rcases dj36 with ⟨p37, p38, p39, -⟩ | ⟨p40, p41, -⟩
  · skip
    refine q_if_ne 13 dX12_needs_5 (by decide) (fun h42 => ?_) (fun h42 => ?_)
    · skip
      refine tr_aload_n dX12_needs_13 rfl ?_
      have p43 := p22 (by exact om_e0d38eff p38)
      refine q_callVv hE (M' := mX12_goesOn) (as := []) dX12_needs_14 lk12_142 inX12_goesOn seX12_goesOn myX12_goesOn (by decide) ⟨by decide, by decide⟩ rfl (kR15 hS0.1 ta0) (Nat.le_of_ble_eq_true rfl) rfl rfl (by decide) (by decide) (fk_X12_goesOn hS0.1 (gB) ((tkN gB gs)) ta0 (TxA.kp hT hS0 ta0 rfl rfl rfl (by decide +kernel) (by decide +kernel)) (by (try rw [c20]); first | done | with_reducible assumption | omega) (by (try rw [c24]); first | done | with_reducible assumption | omega) (by (try rw [c2]); first | done | with_reducible assumption | exact om_df98ac7c pre0 pre1 b3.2 b3.1 p4)) ?_
      rintro cn' K' N' I44 R45 L46 ⟨rfl, rfl, rfl, rfl, g47, gl48, p50, p51, p52, p53, p54, p55, p56, -⟩
      have hS57 := hS0.tr g47 (by decide +kernel) (by decide +kernel)
      have c58 : I44 a0 13 = v27 := (g47.cell ta0 (by decide +kernel)).trans c28
      have hL59 := hL0.tr gl48 (by decide +kernel)
      obtain ⟨v60, c61⟩ : ∃ v, I44 a0 9 = v := ⟨_, rfl⟩
      have b62 := iv15_9 hS57.1 ta0 c61
      rw [c61] at p50
      rw [c61] at p51
      obtain ⟨v63, c64⟩ : ∃ v, I44 a0 10 = v := ⟨_, rfl⟩
      have b65 := iv15_10 hS57.1 ta0 c64
      rw [c64] at p52
      obtain ⟨v66, c67⟩ : ∃ v, I44 a0 11 = v := ⟨_, rfl⟩
      rw [c67] at p53
      obtain ⟨y68, c69⟩ : ∃ v, L46 a0 15 = v := ⟨_, rfl⟩
      rw [c69] at p54
      obtain ⟨v70, c71⟩ : ∃ v, I44 a0 12 = v := ⟨_, rfl⟩
      rw [c71] at p55
      obtain ⟨v72, c73⟩ : ∃ v, I44 a0 8 = v := ⟨_, rfl⟩
      have b74 := iv15_8 hS57.1 ta0 c73
      rw [c73] at p56
      obtain ⟨v75, c76⟩ : ∃ v, I44 a0 14 = v := ⟨_, rfl⟩
      exact tr_vret hZ dX12_needs_17 rfl (by decide) (by decide) ⟨rfl, rfl, rfl, rfl, rfl, hS57, (Or.inl ⟨(by first | done | with_reducible assumption | omega), (by first | done | with_reducible assumption | omega), (by (try rw [c58]); (try rw [c28]); first | done | with_reducible assumption | omega), (by (try rw [c61]); first | done | with_reducible assumption | omega), (by (try rw [c61]); first | done | with_reducible assumption | omega), (by (try rw [c64]); first | done | with_reducible assumption | omega), (by (try rw [c67]); first | done | with_reducible assumption | omega), (by (try rw [c69]); first | done | assumption), (by (try rw [c71]); first | done | assumption), (by (try rw [c73]); first | done | assumption), hL59, trivial⟩), trivial⟩
    · skip
      exfalso; exact om_3624102b p37 h42
  · skip
    refine q_if_ne 13 dX12_needs_5 (by decide) (fun h77 => ?_) (fun h77 => ?_)
    · skip
      exfalso; exact om_3a97d4a5 p40 h77
    · skip
      have p78 := p41
      unfold NotW at p78
      refine tr_aload_n dX12_needs_8 rfl ?_
      refine q_iconst dX12_needs_9 (by decide) ?_
      intro v79 h80
      refine q_callVv hE (M' := mX12_flaw) (as := [_]) dX12_needs_10 lk12_145 inX12_flaw seX12_flaw myX12_flaw (by decide) ⟨by decide, by decide⟩ rfl (kR15 hS0.1 ta0) (Nat.le_of_ble_eq_true rfl) rfl rfl (by decide) (by decide) (fk_X12_flaw hS0.1  ta0 (by exact om_95922198 h80) (by (try rw [c2]); first | done | with_reducible assumption | exact om_df98ac7c pre0 pre1 b3.2 b3.1 p4)) ?_
      rintro cn' K' N' I81 R82 L83 ⟨rfl, rfl, rfl, rfl, rfl, g84, p87, p88, p89, -⟩
      have hS90 := hS0.tr g84 (by decide +kernel) (by decide +kernel)
      have c91 : I81 a0 10 = v6 := (g84.cell ta0 (by decide +kernel)).trans c7
      have c92 : I81 a0 11 = v10 := (g84.cell ta0 (by decide +kernel)).trans c11
      have c93 : I81 a0 12 = v16 := (g84.cell ta0 (by decide +kernel)).trans c17
      have c94 : I81 a0 8 = v19 := (g84.cell ta0 (by decide +kernel)).trans c20
      obtain ⟨v95, c96⟩ : ∃ v, I81 a0 9 = v := ⟨_, rfl⟩
      have b97 := iv15_9 hS90.1 ta0 c96
      rw [c96] at p87
      obtain ⟨v98, c99⟩ : ∃ v, I81 a0 13 = v := ⟨_, rfl⟩
      rw [c99] at p88
      obtain ⟨v100, c101⟩ : ∃ v, I81 a0 14 = v := ⟨_, rfl⟩
      rw [c101] at p89
      rw [c7] at p89
      refine tr_aload_n dX12_needs_13 rfl ?_
      refine q_callVv hE (M' := mX12_goesOn) (as := []) dX12_needs_14 lk12_142 inX12_goesOn seX12_goesOn myX12_goesOn (by decide) ⟨by decide, by decide⟩ rfl (kR15 hS90.1 ta0) (Nat.le_of_ble_eq_true rfl) rfl rfl (by decide) (by decide) (k_X12_goesOn hS90.1 ta0) ?_
      rintro cn' K' N' I102 R103 L104 ⟨rfl, rfl, rfl, rfl, g105, p107, p108, p109, w110, -⟩
      have hS111 := hS90.tr g105 (by decide +kernel) (by decide +kernel)
      have c112 : I102 a0 13 = v98 := (g105.cell ta0 (by decide +kernel)).trans c99
      have c113 : I102 a0 14 = v100 := (g105.cell ta0 (by decide +kernel)).trans c101
      obtain ⟨v114, c115⟩ : ∃ v, I102 a0 9 = v := ⟨_, rfl⟩
      have b116 := iv15_9 hS111.1 ta0 c115
      rw [c96] at p107
      rw [c115] at p107
      rw [c96] at p108
      rw [c115] at p108
      obtain ⟨v117, c118⟩ : ∃ v, I102 a0 8 = v := ⟨_, rfl⟩
      have b119 := iv15_8 hS111.1 ta0 c118
      rw [c118] at p109
      rw [c94] at p109
      rw [c112] at p109
      rw [c99] at p109
      have ov120 := w110.over (by rw [c96]; exact om_394b70a2 p87)
      obtain ⟨v121, c122⟩ : ∃ v, I102 a0 9 = v := ⟨_, rfl⟩
      have b123 := iv15_9 hS111.1 ta0 c122
      obtain ⟨v124, c125⟩ : ∃ v, I102 a0 13 = v := ⟨_, rfl⟩
      obtain ⟨v126, c127⟩ : ∃ v, I102 a0 14 = v := ⟨_, rfl⟩
      (try rw [c122] at ov120)
      (try rw [c125] at ov120)
      (try rw [c127] at ov120)
      (try rw [c96] at ov120)
      (try rw [c99] at ov120)
      (try rw [c101] at ov120)
      obtain ⟨v128, c129⟩ : ∃ v, I102 a0 10 = v := ⟨_, rfl⟩
      have b130 := iv15_10 hS111.1 ta0 c129
      obtain ⟨v131, c132⟩ : ∃ v, I102 a0 11 = v := ⟨_, rfl⟩
      obtain ⟨y133, c134⟩ : ∃ v, L104 a0 15 = v := ⟨_, rfl⟩
      obtain ⟨v135, c136⟩ : ∃ v, I102 a0 12 = v := ⟨_, rfl⟩
      exact tr_vret hZ dX12_needs_17 rfl (by decide) (by decide) ⟨rfl, rfl, rfl, rfl, rfl, hS111, (Or.inr (⟨(by first | done | with_reducible assumption | exact om_6a1b8b25 p78 p87 p108 p107 b116.2 b116.1), (by (try rw [c122]); first | done | with_reducible assumption | exact om_394b70a2 ov120.1), (by (try rw [c125]); first | done | with_reducible assumption | exact om_148142d1 h80 p88 ov120.2.1), (by (try rw [c127]); first | done | with_reducible assumption | exact om_1c22ab7e p9 p89 ov120.2.2), trivial⟩)), trivial⟩
def wik_X12_needsSign : List Nat := [968, 969, 970, 971, 972, 973, 974]
def wrk_X12_needsSign : List Nat := []
def wlk_X12_needsSign : List Nat := [975]
set_option maxHeartbeats 4000000 in
theorem fk_X12_needsSign {l : Launch} {T : Nat → Nat} {cn : Nat} {K N : Nat → Nat} {I0 : cz_I} {R0 : cz_R} {L0 : cz_L} {d : Int} (hW0 : Wf T cn K N I0 R0 d) (gB : cz_B) (gs : Int) {a0 : Nat} (ta0 : T a0 = 15) {x1 : Int32} (hT : ∀ t, R0 a0 5 = some t → Tx I0 t gB) (pre0 : (I0 a0 9).toInt = (tkM gB gs)) (pre1 : (I0 a0 9).toInt ≤ 4) (pre2 : (I0 a0 10).toInt = (tkS gB gs)) (pre3 : (I0 a0 11).toInt = (tkG gB gs)) (pre4 : (AtW ((tkK gB gs)) ((L0 a0 15).toInt) ((tkW gB gs)))) (pre5 : (AtV ((tkK gB gs)) ((I0 a0 12).toInt) ((tkV gB gs)))) (pre6 : (AtN ((tkK gB gs)) ((I0 a0 8).toInt) ((tkN gB gs)))) (pre7 : (I0 a0 7).toInt = (gB.2)) (pre8 : (x1.toInt = 59 ∨ x1.toInt = 44)) : ConE l mX12_needsSign [.ref a0, .int x1] cn K N I0 R0 L0 (ca_v (fun cn' K' N' I' R' L' => cn = cn' ∧ K = K' ∧ N = N' ∧ R0 = R' ∧ St T cn K N d wik_X12_needsSign wrk_X12_needsSign I0 R0 I' R0 ∧ (((15 * (tkK gB gs) = -x1.toInt + 104) ∧ ((I' a0 13).toInt = (I0 a0 13).toInt) ∧ ((I' a0 9).toInt = (tkM gB (tkN gB gs))) ∧ ((I' a0 9).toInt ≤ 4) ∧ ((I' a0 10).toInt = (tkS gB (tkN gB gs))) ∧ ((I' a0 11).toInt = (tkG gB (tkN gB gs))) ∧ ((AtW ((tkK gB (tkN gB gs))) ((L' a0 15).toInt) ((tkW gB (tkN gB gs))))) ∧ ((AtV ((tkK gB (tkN gB gs))) ((I' a0 12).toInt) ((tkV gB (tkN gB gs))))) ∧ ((AtN ((tkK gB (tkN gB gs))) ((I' a0 8).toInt) ((tkN gB (tkN gB gs))))) ∧ LgS T wlk_X12_needsSign L0 L' ∧ True) ∨ ((15 * (tkK gB gs) ≠ -x1.toInt + 104) ∧ ((I' a0 9).toInt = 5) ∧ ((I' a0 13).toInt = 1) ∧ ((I' a0 14).toInt = (tkS gB gs)) ∧ True)) ∧ True)) := by
  refine ConE.of (by decide +kernel) rfl (Nat.le_of_ble_eq_true rfl) rfl (fun X hX hZ hE => ?_)
  subst hX
  have hS0 : St T cn K N d wik_X12_needsSign wrk_X12_needsSign I0 R0 I0 R0 := St.rf0 hW0
  have hL0 : LgS T wlk_X12_needsSign L0 L0 := LgS.rf0
  obtain ⟨v1, c2⟩ : ∃ v, I0 a0 9 = v := ⟨_, rfl⟩
  have b3 := iv15_9 hS0.1 ta0 c2
  have p4 := pre0
  rw [c2] at p4
  have p5 := pre1
  rw [c2] at p5
  obtain ⟨v6, c7⟩ : ∃ v, I0 a0 10 = v := ⟨_, rfl⟩
  have b8 := iv15_10 hS0.1 ta0 c7
  have p9 := pre2
  rw [c7] at p9
  obtain ⟨v10, c11⟩ : ∃ v, I0 a0 11 = v := ⟨_, rfl⟩
  have p12 := pre3
  rw [c11] at p12
  obtain ⟨y13, c14⟩ : ∃ v, L0 a0 15 = v := ⟨_, rfl⟩
  have p15 := pre4
  rw [c14] at p15
  obtain ⟨v16, c17⟩ : ∃ v, I0 a0 12 = v := ⟨_, rfl⟩
  have p18 := pre5
  rw [c17] at p18
  obtain ⟨v19, c20⟩ : ∃ v, I0 a0 8 = v := ⟨_, rfl⟩
  have b21 := iv15_8 hS0.1 ta0 c20
  have p22 := pre6
  rw [c20] at p22
  obtain ⟨v23, c24⟩ : ∃ v, I0 a0 7 = v := ⟨_, rfl⟩
  have b25 := iv15_7 hW0 ta0 c24
  have p26 := pre7
  rw [c24] at p26
  have p27 := pre8
  have ht28 := tkM_of gB gs
  obtain ⟨v29, c30⟩ : ∃ v, I0 a0 13 = v := ⟨_, rfl⟩
  refine tr_aload_n dX12_needsSign_0 rfl ?_
  refine q_getI dX12_needsSign_1 fl12_99 (kR15 hS0.1 ta0) c2 ?_
  refine q_iconst dX12_needsSign_4 (by decide) ?_
  intro v31 h32
  refine q_icmp_ne 16 dX12_needsSign_5 (by decide) (fun h33 => ?_) (fun h33 => ?_)
  · skip
    refine tr_aload_n dX12_needsSign_16 rfl ?_
    refine q_iconst dX12_needsSign_17 (by decide) ?_
    intro v34 h35
    refine q_callVv hE (M' := mX12_flaw) (as := [_]) dX12_needsSign_18 lk12_145 inX12_flaw seX12_flaw myX12_flaw (by decide) ⟨by decide, by decide⟩ rfl (kR15 hS0.1 ta0) (Nat.le_of_ble_eq_true rfl) rfl rfl (by decide) (by decide) (fk_X12_flaw hS0.1  ta0 (by exact om_95922198 h35) (by (try rw [c2]); first | done | with_reducible assumption | exact om_df98ac7c pre0 pre1 b3.2 b3.1 p4)) ?_
    rintro cn' K' N' I36 R37 L38 ⟨rfl, rfl, rfl, rfl, rfl, g39, p42, p43, p44, -⟩
    have hS45 := hS0.tr g39 (by decide +kernel) (by decide +kernel)
    have c46 : I36 a0 10 = v6 := (g39.cell ta0 (by decide +kernel)).trans c7
    have c47 : I36 a0 11 = v10 := (g39.cell ta0 (by decide +kernel)).trans c11
    have c48 : I36 a0 12 = v16 := (g39.cell ta0 (by decide +kernel)).trans c17
    have c49 : I36 a0 8 = v19 := (g39.cell ta0 (by decide +kernel)).trans c20
    obtain ⟨v50, c51⟩ : ∃ v, I36 a0 9 = v := ⟨_, rfl⟩
    have b52 := iv15_9 hS45.1 ta0 c51
    rw [c51] at p42
    obtain ⟨v53, c54⟩ : ∃ v, I36 a0 13 = v := ⟨_, rfl⟩
    rw [c54] at p43
    obtain ⟨v55, c56⟩ : ∃ v, I36 a0 14 = v := ⟨_, rfl⟩
    rw [c56] at p44
    rw [c7] at p44
    refine tr_aload_n dX12_needsSign_21 rfl ?_
    refine q_callVv hE (M' := mX12_goesOn) (as := []) dX12_needsSign_22 lk12_142 inX12_goesOn seX12_goesOn myX12_goesOn (by decide) ⟨by decide, by decide⟩ rfl (kR15 hS45.1 ta0) (Nat.le_of_ble_eq_true rfl) rfl rfl (by decide) (by decide) (k_X12_goesOn hS45.1 ta0) ?_
    rintro cn' K' N' I57 R58 L59 ⟨rfl, rfl, rfl, rfl, g60, p62, p63, p64, w65, -⟩
    have hS66 := hS45.tr g60 (by decide +kernel) (by decide +kernel)
    have c67 : I57 a0 13 = v53 := (g60.cell ta0 (by decide +kernel)).trans c54
    have c68 : I57 a0 14 = v55 := (g60.cell ta0 (by decide +kernel)).trans c56
    obtain ⟨v69, c70⟩ : ∃ v, I57 a0 9 = v := ⟨_, rfl⟩
    have b71 := iv15_9 hS66.1 ta0 c70
    rw [c51] at p62
    rw [c70] at p62
    rw [c51] at p63
    rw [c70] at p63
    obtain ⟨v72, c73⟩ : ∃ v, I57 a0 8 = v := ⟨_, rfl⟩
    have b74 := iv15_8 hS66.1 ta0 c73
    rw [c73] at p64
    rw [c49] at p64
    rw [c67] at p64
    rw [c54] at p64
    have ov75 := w65.over (by rw [c51]; exact om_394b70a2 p42)
    obtain ⟨v76, c77⟩ : ∃ v, I57 a0 9 = v := ⟨_, rfl⟩
    have b78 := iv15_9 hS66.1 ta0 c77
    obtain ⟨v79, c80⟩ : ∃ v, I57 a0 13 = v := ⟨_, rfl⟩
    obtain ⟨v81, c82⟩ : ∃ v, I57 a0 14 = v := ⟨_, rfl⟩
    (try rw [c77] at ov75)
    (try rw [c80] at ov75)
    (try rw [c82] at ov75)
    (try rw [c51] at ov75)
    (try rw [c54] at ov75)
    (try rw [c56] at ov75)
    obtain ⟨v83, c84⟩ : ∃ v, I57 a0 10 = v := ⟨_, rfl⟩
    have b85 := iv15_10 hS66.1 ta0 c84
    obtain ⟨v86, c87⟩ : ∃ v, I57 a0 11 = v := ⟨_, rfl⟩
    obtain ⟨y88, c89⟩ : ∃ v, L59 a0 15 = v := ⟨_, rfl⟩
    obtain ⟨v90, c91⟩ : ∃ v, I57 a0 12 = v := ⟨_, rfl⟩
    exact tr_vret hZ dX12_needsSign_25 rfl (by decide) (by decide) ⟨rfl, rfl, rfl, rfl, rfl, hS66, (Or.inr (⟨(by first | done | with_reducible assumption | exact om_6bfec1c7 pre0 pre1 b3.2 b3.1 p4 p27 ht28 h32 h33 p42 p63 p62 b71.2 b71.1), (by (try rw [c77]); first | done | with_reducible assumption | exact om_394b70a2 ov75.1), (by (try rw [c80]); first | done | with_reducible assumption | exact om_148142d1 h35 p43 ov75.2.1), (by (try rw [c82]); first | done | with_reducible assumption | exact om_1c22ab7e p9 p44 ov75.2.2), trivial⟩)), trivial⟩
  · skip
    refine tr_aload_n dX12_needsSign_8 rfl ?_
    refine q_getI dX12_needsSign_9 fl12_111 (kR15 hS0.1 ta0) c11 ?_
    refine tr_iload_n dX12_needsSign_12 rfl ?_
    refine q_icmp_eq 21 dX12_needsSign_13 (by decide) (fun h92 => ?_) (fun h92 => ?_)
    · skip
      refine tr_aload_n dX12_needsSign_21 rfl ?_
      have p93 := p22 (by exact om_33feae0a p4 ht28 h32 h33)
      refine q_callVv hE (M' := mX12_goesOn) (as := []) dX12_needsSign_22 lk12_142 inX12_goesOn seX12_goesOn myX12_goesOn (by decide) ⟨by decide, by decide⟩ rfl (kR15 hS0.1 ta0) (Nat.le_of_ble_eq_true rfl) rfl rfl (by decide) (by decide) (fk_X12_goesOn hS0.1 (gB) ((tkN gB gs)) ta0 (TxA.kp hT hS0 ta0 rfl rfl rfl (by decide +kernel) (by decide +kernel)) (by (try rw [c20]); first | done | with_reducible assumption | omega) (by (try rw [c24]); first | done | with_reducible assumption | omega) (by (try rw [c2]); first | done | with_reducible assumption | exact om_05443cd7 h32 h33)) ?_
      rintro cn' K' N' I94 R95 L96 ⟨rfl, rfl, rfl, rfl, g97, gl98, p100, p101, p102, p103, p104, p105, p106, -⟩
      have hS107 := hS0.tr g97 (by decide +kernel) (by decide +kernel)
      have c108 : I94 a0 13 = v29 := (g97.cell ta0 (by decide +kernel)).trans c30
      have hL109 := hL0.tr gl98 (by decide +kernel)
      obtain ⟨v110, c111⟩ : ∃ v, I94 a0 9 = v := ⟨_, rfl⟩
      have b112 := iv15_9 hS107.1 ta0 c111
      rw [c111] at p100
      rw [c111] at p101
      obtain ⟨v113, c114⟩ : ∃ v, I94 a0 10 = v := ⟨_, rfl⟩
      have b115 := iv15_10 hS107.1 ta0 c114
      rw [c114] at p102
      obtain ⟨v116, c117⟩ : ∃ v, I94 a0 11 = v := ⟨_, rfl⟩
      rw [c117] at p103
      obtain ⟨y118, c119⟩ : ∃ v, L96 a0 15 = v := ⟨_, rfl⟩
      rw [c119] at p104
      obtain ⟨v120, c121⟩ : ∃ v, I94 a0 12 = v := ⟨_, rfl⟩
      rw [c121] at p105
      obtain ⟨v122, c123⟩ : ∃ v, I94 a0 8 = v := ⟨_, rfl⟩
      have b124 := iv15_8 hS107.1 ta0 c123
      rw [c123] at p106
      obtain ⟨v125, c126⟩ : ∃ v, I94 a0 14 = v := ⟨_, rfl⟩
      exact tr_vret hZ dX12_needsSign_25 rfl (by decide) (by decide) ⟨rfl, rfl, rfl, rfl, rfl, hS107, (Or.inl ⟨(by first | done | with_reducible assumption | exact om_2658cec2 p4 p12 ht28 h32 h33 h92), (by (try rw [c108]); (try rw [c30]); first | done | with_reducible assumption | omega), (by (try rw [c111]); first | done | with_reducible assumption | omega), (by (try rw [c111]); first | done | with_reducible assumption | omega), (by (try rw [c114]); first | done | with_reducible assumption | omega), (by (try rw [c117]); first | done | with_reducible assumption | omega), (by (try rw [c119]); first | done | assumption), (by (try rw [c121]); first | done | assumption), (by (try rw [c123]); first | done | assumption), hL109, trivial⟩), trivial⟩
    · skip
      refine tr_aload_n dX12_needsSign_16 rfl ?_
      refine q_iconst dX12_needsSign_17 (by decide) ?_
      intro v127 h128
      refine q_callVv hE (M' := mX12_flaw) (as := [_]) dX12_needsSign_18 lk12_145 inX12_flaw seX12_flaw myX12_flaw (by decide) ⟨by decide, by decide⟩ rfl (kR15 hS0.1 ta0) (Nat.le_of_ble_eq_true rfl) rfl rfl (by decide) (by decide) (fk_X12_flaw hS0.1  ta0 (by exact om_95922198 h128) (by (try rw [c2]); first | done | with_reducible assumption | exact om_05443cd7 h32 h33)) ?_
      rintro cn' K' N' I129 R130 L131 ⟨rfl, rfl, rfl, rfl, rfl, g132, p135, p136, p137, -⟩
      have hS138 := hS0.tr g132 (by decide +kernel) (by decide +kernel)
      have c139 : I129 a0 10 = v6 := (g132.cell ta0 (by decide +kernel)).trans c7
      have c140 : I129 a0 11 = v10 := (g132.cell ta0 (by decide +kernel)).trans c11
      have c141 : I129 a0 12 = v16 := (g132.cell ta0 (by decide +kernel)).trans c17
      have c142 : I129 a0 8 = v19 := (g132.cell ta0 (by decide +kernel)).trans c20
      obtain ⟨v143, c144⟩ : ∃ v, I129 a0 9 = v := ⟨_, rfl⟩
      have b145 := iv15_9 hS138.1 ta0 c144
      rw [c144] at p135
      obtain ⟨v146, c147⟩ : ∃ v, I129 a0 13 = v := ⟨_, rfl⟩
      rw [c147] at p136
      obtain ⟨v148, c149⟩ : ∃ v, I129 a0 14 = v := ⟨_, rfl⟩
      rw [c149] at p137
      rw [c7] at p137
      refine tr_aload_n dX12_needsSign_21 rfl ?_
      refine q_callVv hE (M' := mX12_goesOn) (as := []) dX12_needsSign_22 lk12_142 inX12_goesOn seX12_goesOn myX12_goesOn (by decide) ⟨by decide, by decide⟩ rfl (kR15 hS138.1 ta0) (Nat.le_of_ble_eq_true rfl) rfl rfl (by decide) (by decide) (k_X12_goesOn hS138.1 ta0) ?_
      rintro cn' K' N' I150 R151 L152 ⟨rfl, rfl, rfl, rfl, g153, p155, p156, p157, w158, -⟩
      have hS159 := hS138.tr g153 (by decide +kernel) (by decide +kernel)
      have c160 : I150 a0 13 = v146 := (g153.cell ta0 (by decide +kernel)).trans c147
      have c161 : I150 a0 14 = v148 := (g153.cell ta0 (by decide +kernel)).trans c149
      obtain ⟨v162, c163⟩ : ∃ v, I150 a0 9 = v := ⟨_, rfl⟩
      have b164 := iv15_9 hS159.1 ta0 c163
      rw [c144] at p155
      rw [c163] at p155
      rw [c144] at p156
      rw [c163] at p156
      obtain ⟨v165, c166⟩ : ∃ v, I150 a0 8 = v := ⟨_, rfl⟩
      have b167 := iv15_8 hS159.1 ta0 c166
      rw [c166] at p157
      rw [c142] at p157
      rw [c160] at p157
      rw [c147] at p157
      have ov168 := w158.over (by rw [c144]; exact om_394b70a2 p135)
      obtain ⟨v169, c170⟩ : ∃ v, I150 a0 9 = v := ⟨_, rfl⟩
      have b171 := iv15_9 hS159.1 ta0 c170
      obtain ⟨v172, c173⟩ : ∃ v, I150 a0 13 = v := ⟨_, rfl⟩
      obtain ⟨v174, c175⟩ : ∃ v, I150 a0 14 = v := ⟨_, rfl⟩
      (try rw [c170] at ov168)
      (try rw [c173] at ov168)
      (try rw [c175] at ov168)
      (try rw [c144] at ov168)
      (try rw [c147] at ov168)
      (try rw [c149] at ov168)
      obtain ⟨v176, c177⟩ : ∃ v, I150 a0 10 = v := ⟨_, rfl⟩
      have b178 := iv15_10 hS159.1 ta0 c177
      obtain ⟨v179, c180⟩ : ∃ v, I150 a0 11 = v := ⟨_, rfl⟩
      obtain ⟨y181, c182⟩ : ∃ v, L152 a0 15 = v := ⟨_, rfl⟩
      obtain ⟨v183, c184⟩ : ∃ v, I150 a0 12 = v := ⟨_, rfl⟩
      exact tr_vret hZ dX12_needsSign_25 rfl (by decide) (by decide) ⟨rfl, rfl, rfl, rfl, rfl, hS159, (Or.inr (⟨(by first | done | with_reducible assumption | exact om_da9dd289 p4 p12 ht28 h32 h33 h92 p135 p156 p155 b164.2 b164.1), (by (try rw [c170]); first | done | with_reducible assumption | exact om_394b70a2 ov168.1), (by (try rw [c173]); first | done | with_reducible assumption | exact om_148142d1 h128 p136 ov168.2.1), (by (try rw [c175]); first | done | with_reducible assumption | exact om_1c22ab7e p9 p137 ov168.2.2), trivial⟩)), trivial⟩
def wik_X12_bounded : List Nat := [969, 973, 974]
def wrk_X12_bounded : List Nat := []
set_option maxHeartbeats 4000000 in
theorem fk_X12_bounded {l : Launch} {T : Nat → Nat} {cn : Nat} {K N : Nat → Nat} {I0 : cz_I} {R0 : cz_R} {L0 : cz_L} {d : Int} (hW0 : Wf T cn K N I0 R0 d) (gB : cz_B) (gs : Int) {a0 : Nat} (ta0 : T a0 = 15) {x1 : Int32} {x2 : Int32} (pre0 : (I0 a0 9).toInt = (tkM gB gs)) (pre1 : (I0 a0 9).toInt ≤ 4) (pre2 : (I0 a0 10).toInt = (tkS gB gs)) (pre3 : (I0 a0 11).toInt = (tkG gB gs)) (pre4 : (AtW ((tkK gB gs)) ((L0 a0 15).toInt) ((tkW gB gs)))) (pre5 : (AtV ((tkK gB gs)) ((I0 a0 12).toInt) ((tkV gB gs)))) (pre6 : (AtN ((tkK gB gs)) ((I0 a0 8).toInt) ((tkN gB gs)))) : ConE l mX12_bounded [.ref a0, .int x1, .int x2] cn K N I0 R0 L0 (ca_i (fun v cn' K' N' I' R' L' => cn = cn' ∧ K = K' ∧ N = N' ∧ R0 = R' ∧ L0 = L' ∧ St T cn K N d wik_X12_bounded wrk_X12_bounded I0 R0 I' R0 ∧ (((v.toInt = (tkV gB gs)) ∧ ((tkK gB gs) = 2) ∧ (x1.toInt ≤ (tkV gB gs)) ∧ ((tkV gB gs) ≤ x2.toInt) ∧ ((I' a0 13).toInt = (I0 a0 13).toInt) ∧ ((I' a0 9).toInt = (tkM gB gs)) ∧ ((I' a0 9).toInt ≤ 4) ∧ ((I' a0 10).toInt = (tkS gB gs)) ∧ ((I' a0 11).toInt = (tkG gB gs)) ∧ ((AtW ((tkK gB gs)) ((L0 a0 15).toInt) ((tkW gB gs)))) ∧ ((AtV ((tkK gB gs)) ((I' a0 12).toInt) ((tkV gB gs)))) ∧ ((AtN ((tkK gB gs)) ((I' a0 8).toInt) ((tkN gB gs)))) ∧ True) ∨ (((v.toInt = x1.toInt ∨ (x1.toInt ≤ v.toInt ∧ v.toInt ≤ x2.toInt))) ∧ ((tkK gB gs) ≠ 2) ∧ ((I' a0 9).toInt = 5) ∧ ((I' a0 13).toInt = 1) ∧ ((I' a0 14).toInt = (tkS gB gs)) ∧ True) ∨ (((v.toInt = x1.toInt ∨ (x1.toInt ≤ v.toInt ∧ v.toInt ≤ x2.toInt))) ∧ ((tkK gB gs) = 2) ∧ (((tkV gB gs) < x1.toInt ∨ x2.toInt < (tkV gB gs))) ∧ ((I' a0 9).toInt = 5) ∧ ((I' a0 13).toInt = 4) ∧ ((I' a0 14).toInt = (tkS gB gs)) ∧ True)) ∧ True)) := by
  refine ConE.of (by decide +kernel) rfl (Nat.le_of_ble_eq_true rfl) rfl (fun X hX hZ hE => ?_)
  subst hX
  have hS0 : St T cn K N d wik_X12_bounded wrk_X12_bounded I0 R0 I0 R0 := St.rf0 hW0
  obtain ⟨v1, c2⟩ : ∃ v, I0 a0 9 = v := ⟨_, rfl⟩
  have b3 := iv15_9 hS0.1 ta0 c2
  have p4 := pre0
  rw [c2] at p4
  have p5 := pre1
  rw [c2] at p5
  obtain ⟨v6, c7⟩ : ∃ v, I0 a0 10 = v := ⟨_, rfl⟩
  have b8 := iv15_10 hW0 ta0 c7
  have p9 := pre2
  rw [c7] at p9
  obtain ⟨v10, c11⟩ : ∃ v, I0 a0 11 = v := ⟨_, rfl⟩
  have p12 := pre3
  rw [c11] at p12
  obtain ⟨y13, c14⟩ : ∃ v, L0 a0 15 = v := ⟨_, rfl⟩
  have p15 := pre4
  rw [c14] at p15
  obtain ⟨v16, c17⟩ : ∃ v, I0 a0 12 = v := ⟨_, rfl⟩
  have p18 := pre5
  rw [c17] at p18
  obtain ⟨v19, c20⟩ : ∃ v, I0 a0 8 = v := ⟨_, rfl⟩
  have b21 := iv15_8 hW0 ta0 c20
  have p22 := pre6
  rw [c20] at p22
  have ht23 := tkM_of gB gs
  obtain ⟨v24, c25⟩ : ∃ v, I0 a0 13 = v := ⟨_, rfl⟩
  refine tr_aload_n dX12_bounded_0 rfl ?_
  refine q_getI dX12_bounded_1 fl12_99 (kR15 hS0.1 ta0) c2 ?_
  refine q_iconst dX12_bounded_4 (by decide) ?_
  intro v26 h27
  refine q_icmp_eq 16 dX12_bounded_5 (by decide) (fun h28 => ?_) (fun h28 => ?_)
  · skip
    refine tr_aload_n dX12_bounded_16 rfl ?_
    have p29 := p18 (by exact om_69cc0566 p4 ht23 h27 h28)
    refine q_getI dX12_bounded_17 fl12_125 (kR15 hS0.1 ta0) c17 ?_
    refine tr_iload_n dX12_bounded_20 rfl ?_
    refine tr_iload_n dX12_bounded_21 rfl ?_
    refine q_callSi hE (M' := mX12_in) (as := [_, _, _]) dX12_bounded_22 lk12_149 inX12_in myX12_in ⟨by decide, by decide⟩ rfl (Nat.le_of_ble_eq_true rfl) rfl rfl (by decide) (by decide) (fk_X12_in hS0.1  ) ?_
    rintro v35 cn' K' N' I30 R31 L32 ⟨rfl, rfl, rfl, rfl, rfl, rfl, h36, dj37, -⟩
    rcases dj37 with ⟨p38, p39, p40, -⟩ | ⟨p41, p42, -⟩
    · skip
      refine q_if_ne 33 dX12_bounded_25 (by decide) (fun h43 => ?_) (fun h43 => ?_)
      · skip
        refine tr_aload_n dX12_bounded_33 rfl ?_
        refine q_getI dX12_bounded_34 fl12_99 (kR15 hS0.1 ta0) c2 ?_
        refine q_iconst dX12_bounded_37 (by decide) ?_
        intro v44 h45
        refine q_icmp_ne 45 dX12_bounded_38 (by decide) (fun h46 => ?_) (fun h46 => ?_)
        · skip
          refine tr_aload_n dX12_bounded_45 rfl ?_
          refine q_getI dX12_bounded_46 fl12_125 (kR15 hS0.1 ta0) c17 ?_
          obtain ⟨v47, c48⟩ : ∃ v, I0 a0 14 = v := ⟨_, rfl⟩
          exact tr_iret hZ dX12_bounded_49 rfl (by decide) (by decide) ⟨v16, rfl, rfl, rfl, rfl, rfl, rfl, hS0, (Or.inl ⟨(by first | done | with_reducible assumption | omega), (by first | done | with_reducible assumption | exact om_77549126 p4 ht23 h27 h28 p38 h43 h45 h46), (by first | done | with_reducible assumption | exact om_bde4ffce p29 p39), (by first | done | with_reducible assumption | exact om_7865fadd p29 p40), (by (try rw [c25]); first | done | with_reducible assumption | omega), (by (try rw [c2]); first | done | with_reducible assumption | omega), (by (try rw [c2]); first | done | with_reducible assumption | omega), (by (try rw [c7]); first | done | with_reducible assumption | omega), (by (try rw [c11]); first | done | with_reducible assumption | omega), (by (try rw [c14]); first | done | assumption), (by (try rw [c17]); first | done | assumption), (by (try rw [c20]); first | done | assumption), trivial⟩), trivial⟩
        · skip
          exfalso; exact om_356469de h27 h28 h45 h46
      · skip
        exfalso; exact om_3624102b p38 h43
    · skip
      refine q_if_ne 33 dX12_bounded_25 (by decide) (fun h49 => ?_) (fun h49 => ?_)
      · skip
        exfalso; exact om_3a97d4a5 p41 h49
      · skip
        refine tr_aload_n dX12_bounded_28 rfl ?_
        refine q_iconst dX12_bounded_29 (by decide) ?_
        intro v50 h51
        refine q_callVv hE (M' := mX12_flaw) (as := [_]) dX12_bounded_30 lk12_145 inX12_flaw seX12_flaw myX12_flaw (by decide) ⟨by decide, by decide⟩ rfl (kR15 hS0.1 ta0) (Nat.le_of_ble_eq_true rfl) rfl rfl (by decide) (by decide) (fk_X12_flaw hS0.1  ta0 (by exact om_fcf2b558 h51) (by (try rw [c2]); first | done | with_reducible assumption | exact om_28293dd9 h27 h28)) ?_
        rintro cn' K' N' I52 R53 L54 ⟨rfl, rfl, rfl, rfl, rfl, g55, p58, p59, p60, -⟩
        have hS61 := hS0.tr g55 (by decide +kernel) (by decide +kernel)
        obtain ⟨v62, c63⟩ : ∃ v, I52 a0 9 = v := ⟨_, rfl⟩
        have b64 := iv15_9 hS61.1 ta0 c63
        rw [c63] at p58
        obtain ⟨v65, c66⟩ : ∃ v, I52 a0 13 = v := ⟨_, rfl⟩
        rw [c66] at p59
        obtain ⟨v67, c68⟩ : ∃ v, I52 a0 14 = v := ⟨_, rfl⟩
        rw [c68] at p60
        rw [c7] at p60
        refine tr_aload_n dX12_bounded_33 rfl ?_
        refine q_getI dX12_bounded_34 fl12_99 (kR15 hS61.1 ta0) c63 ?_
        refine q_iconst dX12_bounded_37 (by decide) ?_
        intro v69 h70
        refine q_icmp_ne 45 dX12_bounded_38 (by decide) (fun h71 => ?_) (fun h71 => ?_)
        · skip
          exfalso; exact om_1fa3e129 p58 h70 h71
        · skip
          refine tr_iload_n dX12_bounded_41 rfl ?_
          refine tr_goto 49 dX12_bounded_42 (by decide) ?_
          exact tr_iret hZ dX12_bounded_49 rfl (by decide) (by decide) ⟨x1, rfl, rfl, rfl, rfl, rfl, rfl, hS61, (Or.inr (Or.inr (⟨(by first | done | with_reducible assumption | exact om_bdb73b2f), (by first | done | with_reducible assumption | exact om_50373558 p4 ht23 h27 h28 p42), (by first | done | with_reducible assumption | exact om_5aff390c p29 p42), (by (try rw [c63]); first | done | with_reducible assumption | omega), (by (try rw [c66]); first | done | with_reducible assumption | exact om_7c28df22 h51 p59), (by (try rw [c68]); first | done | with_reducible assumption | exact om_9fa72578 p9 p60), trivial⟩))), trivial⟩
  · skip
    refine tr_aload_n dX12_bounded_8 rfl ?_
    refine q_iconst dX12_bounded_9 (by decide) ?_
    intro v72 h73
    refine q_callVv hE (M' := mX12_flaw) (as := [_]) dX12_bounded_10 lk12_145 inX12_flaw seX12_flaw myX12_flaw (by decide) ⟨by decide, by decide⟩ rfl (kR15 hS0.1 ta0) (Nat.le_of_ble_eq_true rfl) rfl rfl (by decide) (by decide) (fk_X12_flaw hS0.1  ta0 (by exact om_95922198 h73) (by (try rw [c2]); first | done | with_reducible assumption | exact om_df98ac7c pre0 pre1 b3.2 b3.1 p4)) ?_
    rintro cn' K' N' I74 R75 L76 ⟨rfl, rfl, rfl, rfl, rfl, g77, p80, p81, p82, -⟩
    have hS83 := hS0.tr g77 (by decide +kernel) (by decide +kernel)
    obtain ⟨v84, c85⟩ : ∃ v, I74 a0 9 = v := ⟨_, rfl⟩
    have b86 := iv15_9 hS83.1 ta0 c85
    rw [c85] at p80
    obtain ⟨v87, c88⟩ : ∃ v, I74 a0 13 = v := ⟨_, rfl⟩
    rw [c88] at p81
    obtain ⟨v89, c90⟩ : ∃ v, I74 a0 14 = v := ⟨_, rfl⟩
    rw [c90] at p82
    rw [c7] at p82
    refine tr_goto 33 dX12_bounded_13 (by decide) ?_
    refine tr_aload_n dX12_bounded_33 rfl ?_
    refine q_getI dX12_bounded_34 fl12_99 (kR15 hS83.1 ta0) c85 ?_
    refine q_iconst dX12_bounded_37 (by decide) ?_
    intro v91 h92
    refine q_icmp_ne 45 dX12_bounded_38 (by decide) (fun h93 => ?_) (fun h93 => ?_)
    · skip
      exfalso; exact om_1fa3e129 p80 h92 h93
    · skip
      refine tr_iload_n dX12_bounded_41 rfl ?_
      refine tr_goto 49 dX12_bounded_42 (by decide) ?_
      exact tr_iret hZ dX12_bounded_49 rfl (by decide) (by decide) ⟨x1, rfl, rfl, rfl, rfl, rfl, rfl, hS83, (Or.inr (Or.inl ⟨(by first | done | with_reducible assumption | exact om_bdb73b2f), (by first | done | with_reducible assumption | exact om_283efaa3 p4 ht23 h27 h28), (by (try rw [c85]); first | done | with_reducible assumption | omega), (by (try rw [c88]); first | done | with_reducible assumption | exact om_9fbcd811 h73 p81), (by (try rw [c90]); first | done | with_reducible assumption | exact om_9fa72578 p9 p82), trivial⟩)), trivial⟩
def wik_X12_readWhole : List Nat := [968, 969, 970, 971, 972, 973, 974]
def wrk_X12_readWhole : List Nat := []
def wlk_X12_readWhole : List Nat := [975]
set_option maxHeartbeats 4000000 in
theorem fk_X12_readWhole {l : Launch} {T : Nat → Nat} {cn : Nat} {K N : Nat → Nat} {I0 : cz_I} {R0 : cz_R} {L0 : cz_L} {d : Int} (hW0 : Wf T cn K N I0 R0 d) (gB : cz_B) (gs : Int) {a0 : Nat} (ta0 : T a0 = 15) {x1 : Int32} {x2 : Int32} (hT : ∀ t, R0 a0 5 = some t → Tx I0 t gB) (pre0 : (I0 a0 9).toInt = (tkM gB gs)) (pre1 : (I0 a0 9).toInt ≤ 4) (pre2 : (I0 a0 10).toInt = (tkS gB gs)) (pre3 : (I0 a0 11).toInt = (tkG gB gs)) (pre4 : (AtW ((tkK gB gs)) ((L0 a0 15).toInt) ((tkW gB gs)))) (pre5 : (AtV ((tkK gB gs)) ((I0 a0 12).toInt) ((tkV gB gs)))) (pre6 : (AtN ((tkK gB gs)) ((I0 a0 8).toInt) ((tkN gB gs)))) (pre7 : (I0 a0 7).toInt = (gB.2)) : ConE l mX12_readWhole [.ref a0, .int x1, .int x2] cn K N I0 R0 L0 (ca_i (fun v cn' K' N' I' R' L' => cn = cn' ∧ K = K' ∧ N = N' ∧ R0 = R' ∧ St T cn K N d wik_X12_readWhole wrk_X12_readWhole I0 R0 I' R0 ∧ (((v.toInt = (tkV gB gs)) ∧ ((tkK gB gs) = 2) ∧ (x1.toInt ≤ (tkV gB gs)) ∧ ((tkV gB gs) ≤ x2.toInt) ∧ ((I' a0 13).toInt = (I0 a0 13).toInt) ∧ ((I' a0 9).toInt = (tkM gB (tkN gB gs))) ∧ ((I' a0 9).toInt ≤ 4) ∧ ((I' a0 10).toInt = (tkS gB (tkN gB gs))) ∧ ((I' a0 11).toInt = (tkG gB (tkN gB gs))) ∧ ((AtW ((tkK gB (tkN gB gs))) ((L' a0 15).toInt) ((tkW gB (tkN gB gs))))) ∧ ((AtV ((tkK gB (tkN gB gs))) ((I' a0 12).toInt) ((tkV gB (tkN gB gs))))) ∧ ((AtN ((tkK gB (tkN gB gs))) ((I' a0 8).toInt) ((tkN gB (tkN gB gs))))) ∧ LgS T wlk_X12_readWhole L0 L' ∧ True) ∨ (((v.toInt = x1.toInt ∨ (x1.toInt ≤ v.toInt ∧ v.toInt ≤ x2.toInt))) ∧ ((tkK gB gs) ≠ 2) ∧ ((I' a0 9).toInt = 5) ∧ ((I' a0 13).toInt = 1) ∧ ((I' a0 14).toInt = (tkS gB gs)) ∧ True) ∨ (((v.toInt = x1.toInt ∨ (x1.toInt ≤ v.toInt ∧ v.toInt ≤ x2.toInt))) ∧ ((tkK gB gs) = 2) ∧ (((tkV gB gs) < x1.toInt ∨ x2.toInt < (tkV gB gs))) ∧ ((I' a0 9).toInt = 5) ∧ ((I' a0 13).toInt = 4) ∧ ((I' a0 14).toInt = (tkS gB gs)) ∧ True)) ∧ True)) := by
  refine ConE.of (by decide +kernel) rfl (Nat.le_of_ble_eq_true rfl) rfl (fun X hX hZ hE => ?_)
  subst hX
  have hS0 : St T cn K N d wik_X12_readWhole wrk_X12_readWhole I0 R0 I0 R0 := St.rf0 hW0
  have hL0 : LgS T wlk_X12_readWhole L0 L0 := LgS.rf0
  obtain ⟨v1, c2⟩ : ∃ v, I0 a0 9 = v := ⟨_, rfl⟩
  have b3 := iv15_9 hS0.1 ta0 c2
  have p4 := pre0
  rw [c2] at p4
  have p5 := pre1
  rw [c2] at p5
  obtain ⟨v6, c7⟩ : ∃ v, I0 a0 10 = v := ⟨_, rfl⟩
  have b8 := iv15_10 hS0.1 ta0 c7
  have p9 := pre2
  rw [c7] at p9
  obtain ⟨v10, c11⟩ : ∃ v, I0 a0 11 = v := ⟨_, rfl⟩
  have p12 := pre3
  rw [c11] at p12
  obtain ⟨y13, c14⟩ : ∃ v, L0 a0 15 = v := ⟨_, rfl⟩
  have p15 := pre4
  rw [c14] at p15
  obtain ⟨v16, c17⟩ : ∃ v, I0 a0 12 = v := ⟨_, rfl⟩
  have p18 := pre5
  rw [c17] at p18
  obtain ⟨v19, c20⟩ : ∃ v, I0 a0 8 = v := ⟨_, rfl⟩
  have b21 := iv15_8 hS0.1 ta0 c20
  have p22 := pre6
  rw [c20] at p22
  obtain ⟨v23, c24⟩ : ∃ v, I0 a0 7 = v := ⟨_, rfl⟩
  have b25 := iv15_7 hW0 ta0 c24
  have p26 := pre7
  rw [c24] at p26
  obtain ⟨v27, c28⟩ : ∃ v, I0 a0 13 = v := ⟨_, rfl⟩
  refine tr_aload_n dX12_readWhole_0 rfl ?_
  refine tr_iload_n dX12_readWhole_1 rfl ?_
  refine tr_iload_n dX12_readWhole_2 rfl ?_
  refine q_callVi hE (M' := mX12_bounded) (as := [_, _]) dX12_readWhole_3 lk12_153 inX12_bounded seX12_bounded myX12_bounded (by decide) ⟨by decide, by decide⟩ rfl (kR15 hS0.1 ta0) (Nat.le_of_ble_eq_true rfl) rfl rfl (by decide) (by decide) (fk_X12_bounded hS0.1 (gB) (gs) ta0 (by (try rw [c2]); first | done | with_reducible assumption | omega) (by (try rw [c2]); first | done | with_reducible assumption | omega) (by (try rw [c7]); first | done | with_reducible assumption | omega) (by (try rw [c11]); first | done | with_reducible assumption | omega) (by (try rw [c14]); first | done | assumption) (by (try rw [c17]); first | done | assumption) (by (try rw [c20]); first | done | assumption)) ?_
  rintro v34 cn' K' N' I29 R30 L31 ⟨rfl, rfl, rfl, rfl, rfl, g32, dj35, -⟩
  have hS36 := hS0.tr g32 (by decide +kernel) (by decide +kernel)
  have c37 : I29 a0 10 = v6 := (g32.cell ta0 (by decide +kernel)).trans c7
  have c38 : I29 a0 11 = v10 := (g32.cell ta0 (by decide +kernel)).trans c11
  have c39 : I29 a0 12 = v16 := (g32.cell ta0 (by decide +kernel)).trans c17
  have c40 : I29 a0 8 = v19 := (g32.cell ta0 (by decide +kernel)).trans c20
  rcases dj35 with ⟨p41, p42, p43, p44, p45, p46, p47, p48, p49, p50, p51, p52, -⟩ | ⟨p53, p54, p55, p56, p57, -⟩ | ⟨p58, p59, p60, p61, p62, p63, -⟩
  · skip
    obtain ⟨v64, c65⟩ : ∃ v, I29 a0 13 = v := ⟨_, rfl⟩
    rw [c65] at p45
    rw [c28] at p45
    obtain ⟨v66, c67⟩ : ∃ v, I29 a0 9 = v := ⟨_, rfl⟩
    have b68 := iv15_9 hS36.1 ta0 c67
    rw [c67] at p46
    rw [c67] at p47
    rw [c37] at p48
    rw [c38] at p49
    rw [c14] at p50
    rw [c39] at p51
    rw [c40] at p52
    refine tr_istore_n dX12_readWhole_6 (by decide) (by decide) ?_
    refine tr_aload_n dX12_readWhole_7 rfl ?_
    have p69 := p52 (by exact om_cab07503 p42)
    refine q_callVv hE (M' := mX12_goesOn) (as := []) dX12_readWhole_8 lk12_142 inX12_goesOn seX12_goesOn myX12_goesOn (by decide) ⟨by decide, by decide⟩ rfl (kR15 hS36.1 ta0) (Nat.le_of_ble_eq_true rfl) rfl rfl (by decide) (by decide) (fk_X12_goesOn hS36.1 (gB) ((tkN gB gs)) ta0 (TxA.kp hT hS36 ta0 rfl rfl rfl (by decide +kernel) (by decide +kernel)) (by (try rw [c40]); first | done | with_reducible assumption | omega) (by (try rw [((hS36.cell ta0 (by decide +kernel)).trans c24)]); first | done | with_reducible assumption | omega) (by (try rw [c67]); first | done | with_reducible assumption | exact om_32d19ce9 pre0 pre1 b3.2 b3.1 p4 p46)) ?_
    rintro cn' K' N' I70 R71 L72 ⟨rfl, rfl, rfl, rfl, g73, gl74, p76, p77, p78, p79, p80, p81, p82, -⟩
    have hS83 := hS36.tr g73 (by decide +kernel) (by decide +kernel)
    have c84 : I70 a0 13 = v64 := (g73.cell ta0 (by decide +kernel)).trans c65
    have hL85 := hL0.tr gl74 (by decide +kernel)
    obtain ⟨v86, c87⟩ : ∃ v, I70 a0 9 = v := ⟨_, rfl⟩
    have b88 := iv15_9 hS83.1 ta0 c87
    rw [c87] at p76
    rw [c87] at p77
    obtain ⟨v89, c90⟩ : ∃ v, I70 a0 10 = v := ⟨_, rfl⟩
    have b91 := iv15_10 hS83.1 ta0 c90
    rw [c90] at p78
    obtain ⟨v92, c93⟩ : ∃ v, I70 a0 11 = v := ⟨_, rfl⟩
    rw [c93] at p79
    obtain ⟨y94, c95⟩ : ∃ v, L72 a0 15 = v := ⟨_, rfl⟩
    rw [c95] at p80
    obtain ⟨v96, c97⟩ : ∃ v, I70 a0 12 = v := ⟨_, rfl⟩
    rw [c97] at p81
    obtain ⟨v98, c99⟩ : ∃ v, I70 a0 8 = v := ⟨_, rfl⟩
    have b100 := iv15_8 hS83.1 ta0 c99
    rw [c99] at p82
    refine tr_iload_n dX12_readWhole_11 rfl ?_
    obtain ⟨v101, c102⟩ : ∃ v, I70 a0 14 = v := ⟨_, rfl⟩
    exact tr_iret hZ dX12_readWhole_12 rfl (by decide) (by decide) ⟨v34, rfl, rfl, rfl, rfl, rfl, hS83, (Or.inl ⟨(by first | done | with_reducible assumption | omega), (by first | done | with_reducible assumption | omega), (by first | done | with_reducible assumption | omega), (by first | done | with_reducible assumption | omega), (by (try rw [c84]); (try rw [c28]); first | done | with_reducible assumption | omega), (by (try rw [c87]); first | done | with_reducible assumption | omega), (by (try rw [c87]); first | done | with_reducible assumption | omega), (by (try rw [c90]); first | done | with_reducible assumption | omega), (by (try rw [c93]); first | done | with_reducible assumption | omega), (by (try rw [c95]); first | done | assumption), (by (try rw [c97]); first | done | assumption), (by (try rw [c99]); first | done | assumption), hL85, trivial⟩), trivial⟩
  · skip
    obtain ⟨v103, c104⟩ : ∃ v, I29 a0 9 = v := ⟨_, rfl⟩
    have b105 := iv15_9 hS36.1 ta0 c104
    rw [c104] at p55
    obtain ⟨v106, c107⟩ : ∃ v, I29 a0 13 = v := ⟨_, rfl⟩
    rw [c107] at p56
    obtain ⟨v108, c109⟩ : ∃ v, I29 a0 14 = v := ⟨_, rfl⟩
    rw [c109] at p57
    refine tr_istore_n dX12_readWhole_6 (by decide) (by decide) ?_
    refine tr_aload_n dX12_readWhole_7 rfl ?_
    refine q_callVv hE (M' := mX12_goesOn) (as := []) dX12_readWhole_8 lk12_142 inX12_goesOn seX12_goesOn myX12_goesOn (by decide) ⟨by decide, by decide⟩ rfl (kR15 hS36.1 ta0) (Nat.le_of_ble_eq_true rfl) rfl rfl (by decide) (by decide) (k_X12_goesOn hS36.1 ta0) ?_
    rintro cn' K' N' I110 R111 L112 ⟨rfl, rfl, rfl, rfl, g113, p115, p116, p117, w118, -⟩
    have hS119 := hS36.tr g113 (by decide +kernel) (by decide +kernel)
    have c120 : I110 a0 13 = v106 := (g113.cell ta0 (by decide +kernel)).trans c107
    have c121 : I110 a0 14 = v108 := (g113.cell ta0 (by decide +kernel)).trans c109
    obtain ⟨v122, c123⟩ : ∃ v, I110 a0 9 = v := ⟨_, rfl⟩
    have b124 := iv15_9 hS119.1 ta0 c123
    rw [c104] at p115
    rw [c123] at p115
    rw [c104] at p116
    rw [c123] at p116
    obtain ⟨v125, c126⟩ : ∃ v, I110 a0 8 = v := ⟨_, rfl⟩
    have b127 := iv15_8 hS119.1 ta0 c126
    rw [c126] at p117
    rw [c40] at p117
    rw [c120] at p117
    rw [c107] at p117
    have ov128 := w118.over (by rw [c104]; exact om_394b70a2 p55)
    obtain ⟨v129, c130⟩ : ∃ v, I110 a0 9 = v := ⟨_, rfl⟩
    have b131 := iv15_9 hS119.1 ta0 c130
    obtain ⟨v132, c133⟩ : ∃ v, I110 a0 13 = v := ⟨_, rfl⟩
    obtain ⟨v134, c135⟩ : ∃ v, I110 a0 14 = v := ⟨_, rfl⟩
    (try rw [c130] at ov128)
    (try rw [c133] at ov128)
    (try rw [c135] at ov128)
    (try rw [c104] at ov128)
    (try rw [c107] at ov128)
    (try rw [c109] at ov128)
    refine tr_iload_n dX12_readWhole_11 rfl ?_
    obtain ⟨v136, c137⟩ : ∃ v, I110 a0 10 = v := ⟨_, rfl⟩
    have b138 := iv15_10 hS119.1 ta0 c137
    obtain ⟨v139, c140⟩ : ∃ v, I110 a0 11 = v := ⟨_, rfl⟩
    obtain ⟨y141, c142⟩ : ∃ v, L112 a0 15 = v := ⟨_, rfl⟩
    obtain ⟨v143, c144⟩ : ∃ v, I110 a0 12 = v := ⟨_, rfl⟩
    exact tr_iret hZ dX12_readWhole_12 rfl (by decide) (by decide) ⟨v34, rfl, rfl, rfl, rfl, rfl, hS119, (Or.inr (Or.inl ⟨(by first | done | with_reducible assumption | omega), (by first | done | with_reducible assumption | omega), (by (try rw [c130]); first | done | with_reducible assumption | exact om_394b70a2 ov128.1), (by (try rw [c133]); first | done | with_reducible assumption | exact om_9fbcd811 p56 ov128.2.1), (by (try rw [c135]); first | done | with_reducible assumption | exact om_25b791d0 p9 p57 ov128.2.2), trivial⟩)), trivial⟩
  · skip
    obtain ⟨v145, c146⟩ : ∃ v, I29 a0 9 = v := ⟨_, rfl⟩
    have b147 := iv15_9 hS36.1 ta0 c146
    rw [c146] at p61
    obtain ⟨v148, c149⟩ : ∃ v, I29 a0 13 = v := ⟨_, rfl⟩
    rw [c149] at p62
    obtain ⟨v150, c151⟩ : ∃ v, I29 a0 14 = v := ⟨_, rfl⟩
    rw [c151] at p63
    refine tr_istore_n dX12_readWhole_6 (by decide) (by decide) ?_
    refine tr_aload_n dX12_readWhole_7 rfl ?_
    refine q_callVv hE (M' := mX12_goesOn) (as := []) dX12_readWhole_8 lk12_142 inX12_goesOn seX12_goesOn myX12_goesOn (by decide) ⟨by decide, by decide⟩ rfl (kR15 hS36.1 ta0) (Nat.le_of_ble_eq_true rfl) rfl rfl (by decide) (by decide) (k_X12_goesOn hS36.1 ta0) ?_
    rintro cn' K' N' I152 R153 L154 ⟨rfl, rfl, rfl, rfl, g155, p157, p158, p159, w160, -⟩
    have hS161 := hS36.tr g155 (by decide +kernel) (by decide +kernel)
    have c162 : I152 a0 13 = v148 := (g155.cell ta0 (by decide +kernel)).trans c149
    have c163 : I152 a0 14 = v150 := (g155.cell ta0 (by decide +kernel)).trans c151
    obtain ⟨v164, c165⟩ : ∃ v, I152 a0 9 = v := ⟨_, rfl⟩
    have b166 := iv15_9 hS161.1 ta0 c165
    rw [c146] at p157
    rw [c165] at p157
    rw [c146] at p158
    rw [c165] at p158
    obtain ⟨v167, c168⟩ : ∃ v, I152 a0 8 = v := ⟨_, rfl⟩
    have b169 := iv15_8 hS161.1 ta0 c168
    rw [c168] at p159
    rw [c40] at p159
    rw [c162] at p159
    rw [c149] at p159
    have ov170 := w160.over (by rw [c146]; exact om_394b70a2 p61)
    obtain ⟨v171, c172⟩ : ∃ v, I152 a0 9 = v := ⟨_, rfl⟩
    have b173 := iv15_9 hS161.1 ta0 c172
    obtain ⟨v174, c175⟩ : ∃ v, I152 a0 13 = v := ⟨_, rfl⟩
    obtain ⟨v176, c177⟩ : ∃ v, I152 a0 14 = v := ⟨_, rfl⟩
    (try rw [c172] at ov170)
    (try rw [c175] at ov170)
    (try rw [c177] at ov170)
    (try rw [c146] at ov170)
    (try rw [c149] at ov170)
    (try rw [c151] at ov170)
    refine tr_iload_n dX12_readWhole_11 rfl ?_
    obtain ⟨v178, c179⟩ : ∃ v, I152 a0 10 = v := ⟨_, rfl⟩
    have b180 := iv15_10 hS161.1 ta0 c179
    obtain ⟨v181, c182⟩ : ∃ v, I152 a0 11 = v := ⟨_, rfl⟩
    obtain ⟨y183, c184⟩ : ∃ v, L154 a0 15 = v := ⟨_, rfl⟩
    obtain ⟨v185, c186⟩ : ∃ v, I152 a0 12 = v := ⟨_, rfl⟩
    exact tr_iret hZ dX12_readWhole_12 rfl (by decide) (by decide) ⟨v34, rfl, rfl, rfl, rfl, rfl, hS161, (Or.inr (Or.inr (⟨(by first | done | with_reducible assumption | omega), (by first | done | with_reducible assumption | omega), (by first | done | with_reducible assumption | omega), (by (try rw [c172]); first | done | with_reducible assumption | exact om_394b70a2 ov170.1), (by (try rw [c175]); first | done | with_reducible assumption | exact om_7c28df22 p62 ov170.2.1), (by (try rw [c177]); first | done | with_reducible assumption | exact om_25b791d0 p9 p63 ov170.2.2), trivial⟩))), trivial⟩
def wik_X12_readPart : List Nat := [968, 969, 970, 971, 972, 973, 974]
def wrk_X12_readPart : List Nat := []
def wlk_X12_readPart : List Nat := [975]
set_option maxHeartbeats 4000000 in
theorem fk_X12_readPart {l : Launch} {T : Nat → Nat} {cn : Nat} {K N : Nat → Nat} {I0 : cz_I} {R0 : cz_R} {L0 : cz_L} {d : Int} (hW0 : Wf T cn K N I0 R0 d) (gB : cz_B) (gs : Int) {a0 : Nat} (ta0 : T a0 = 15) {u1 : UInt32} (hu1 : u1.toNat < cz_NS) {x2 : Int32} {x3 : Int32} (hT : ∀ t, R0 a0 5 = some t → Tx I0 t gB) (pre0 : (I0 a0 9).toInt = (tkM gB gs)) (pre1 : (I0 a0 9).toInt ≤ 4) (pre2 : (I0 a0 10).toInt = (tkS gB gs)) (pre3 : (I0 a0 11).toInt = (tkG gB gs)) (pre4 : (AtW ((tkK gB gs)) ((L0 a0 15).toInt) ((tkW gB gs)))) (pre5 : (AtV ((tkK gB gs)) ((I0 a0 12).toInt) ((tkV gB gs)))) (pre6 : (AtN ((tkK gB gs)) ((I0 a0 8).toInt) ((tkN gB gs)))) (pre7 : (I0 a0 7).toInt = (gB.2)) : ConE l mX12_readPart [.ref a0, .float u1, .int x2, .int x3] cn K N I0 R0 L0 (ca_i (fun v cn' K' N' I' R' L' => cn = cn' ∧ K = K' ∧ N = N' ∧ R0 = R' ∧ St T cn K N d wik_X12_readPart wrk_X12_readPart I0 R0 I' R0 ∧ (((v.toInt = (tkV gB (tkN gB gs))) ∧ ((tkK gB gs) = 1) ∧ ((tkW gB gs) = (pkI u1)) ∧ ((tkK gB (tkN gB gs)) = 2) ∧ (x2.toInt ≤ (tkV gB (tkN gB gs))) ∧ ((tkV gB (tkN gB gs)) ≤ x3.toInt) ∧ ((I' a0 13).toInt = (I0 a0 13).toInt) ∧ ((I' a0 9).toInt = (tkM gB (tkN gB (tkN gB gs)))) ∧ ((I' a0 9).toInt ≤ 4) ∧ ((I' a0 10).toInt = (tkS gB (tkN gB (tkN gB gs)))) ∧ ((I' a0 11).toInt = (tkG gB (tkN gB (tkN gB gs)))) ∧ ((AtW ((tkK gB (tkN gB (tkN gB gs)))) ((L' a0 15).toInt) ((tkW gB (tkN gB (tkN gB gs)))))) ∧ ((AtV ((tkK gB (tkN gB (tkN gB gs)))) ((I' a0 12).toInt) ((tkV gB (tkN gB (tkN gB gs)))))) ∧ ((AtN ((tkK gB (tkN gB (tkN gB gs)))) ((I' a0 8).toInt) ((tkN gB (tkN gB (tkN gB gs)))))) ∧ LgS T wlk_X12_readPart L0 L' ∧ True) ∨ (((v.toInt = x2.toInt ∨ (x2.toInt ≤ v.toInt ∧ v.toInt ≤ x3.toInt))) ∧ (((tkK gB gs) ≠ 1 ∨ (tkW gB gs) ≠ (pkI u1))) ∧ ((I' a0 9).toInt = 5) ∧ ((I' a0 13).toInt = 1) ∧ ((I' a0 14).toInt = (tkS gB gs)) ∧ True) ∨ (((v.toInt = x2.toInt ∨ (x2.toInt ≤ v.toInt ∧ v.toInt ≤ x3.toInt))) ∧ ((tkK gB gs) = 1) ∧ ((tkW gB gs) = (pkI u1)) ∧ ((tkK gB (tkN gB gs)) ≠ 2) ∧ ((I' a0 9).toInt = 5) ∧ ((I' a0 13).toInt = 1) ∧ ((I' a0 14).toInt = (tkS gB (tkN gB gs))) ∧ True) ∨ (((v.toInt = x2.toInt ∨ (x2.toInt ≤ v.toInt ∧ v.toInt ≤ x3.toInt))) ∧ ((tkK gB gs) = 1) ∧ ((tkW gB gs) = (pkI u1)) ∧ ((tkK gB (tkN gB gs)) = 2) ∧ (((tkV gB (tkN gB gs)) < x2.toInt ∨ x3.toInt < (tkV gB (tkN gB gs)))) ∧ ((I' a0 9).toInt = 5) ∧ ((I' a0 13).toInt = 4) ∧ ((I' a0 14).toInt = (tkS gB (tkN gB gs))) ∧ True)) ∧ True)) := by
  refine ConE.of (by decide +kernel) rfl (Nat.le_of_ble_eq_true rfl) rfl (fun X hX hZ hE => ?_)
  subst hX
  have hS0 : St T cn K N d wik_X12_readPart wrk_X12_readPart I0 R0 I0 R0 := St.rf0 hW0
  have hL0 : LgS T wlk_X12_readPart L0 L0 := LgS.rf0
  obtain ⟨v1, c2⟩ : ∃ v, I0 a0 9 = v := ⟨_, rfl⟩
  have b3 := iv15_9 hS0.1 ta0 c2
  have p4 := pre0
  rw [c2] at p4
  have p5 := pre1
  rw [c2] at p5
  obtain ⟨v6, c7⟩ : ∃ v, I0 a0 10 = v := ⟨_, rfl⟩
  have b8 := iv15_10 hS0.1 ta0 c7
  have p9 := pre2
  rw [c7] at p9
  obtain ⟨v10, c11⟩ : ∃ v, I0 a0 11 = v := ⟨_, rfl⟩
  have p12 := pre3
  rw [c11] at p12
  obtain ⟨y13, c14⟩ : ∃ v, L0 a0 15 = v := ⟨_, rfl⟩
  have p15 := pre4
  rw [c14] at p15
  obtain ⟨v16, c17⟩ : ∃ v, I0 a0 12 = v := ⟨_, rfl⟩
  have p18 := pre5
  rw [c17] at p18
  obtain ⟨v19, c20⟩ : ∃ v, I0 a0 8 = v := ⟨_, rfl⟩
  have b21 := iv15_8 hS0.1 ta0 c20
  have p22 := pre6
  rw [c20] at p22
  obtain ⟨v23, c24⟩ : ∃ v, I0 a0 7 = v := ⟨_, rfl⟩
  have b25 := iv15_7 hW0 ta0 c24
  have p26 := pre7
  rw [c24] at p26
  obtain ⟨v27, c28⟩ : ∃ v, I0 a0 13 = v := ⟨_, rfl⟩
  refine tr_aload_n dX12_readPart_0 rfl ?_
  refine tr_aload_nS dX12_readPart_1 rfl ?_
  refine q_callVv hE (M' := mX12_needs) (as := [_]) dX12_readPart_2 lk12_157 inX12_needs seX12_needs myX12_needs (by decide) ⟨by decide, by decide⟩ rfl (kR15 hS0.1 ta0) (Nat.le_of_ble_eq_true rfl) rfl rfl (by decide) (by decide) (fk_X12_needs hS0.1 (gB) (gs) ta0 hu1 (TxA.kp hT hS0 ta0 rfl rfl rfl (by decide +kernel) (by decide +kernel)) (by (try rw [c2]); first | done | with_reducible assumption | omega) (by (try rw [c2]); first | done | with_reducible assumption | omega) (by (try rw [c7]); first | done | with_reducible assumption | omega) (by (try rw [c11]); first | done | with_reducible assumption | omega) (by (try rw [c14]); first | done | assumption) (by (try rw [c17]); first | done | assumption) (by (try rw [c20]); first | done | assumption) (by (try rw [c24]); first | done | with_reducible assumption | omega)) ?_
  rintro cn' K' N' I29 R30 L31 ⟨rfl, rfl, rfl, rfl, g32, dj35, -⟩
  have hS36 := hS0.tr g32 (by decide +kernel) (by decide +kernel)
  rcases dj35 with ⟨p37, p38, p39, p40, p41, p42, p43, p44, p45, p46, gl47, -⟩ | ⟨p48, p49, p50, p51, -⟩
  · skip
    have hL52 := hL0.tr gl47 (by decide +kernel)
    obtain ⟨v53, c54⟩ : ∃ v, I29 a0 13 = v := ⟨_, rfl⟩
    rw [c54] at p39
    rw [c28] at p39
    obtain ⟨v55, c56⟩ : ∃ v, I29 a0 9 = v := ⟨_, rfl⟩
    have b57 := iv15_9 hS36.1 ta0 c56
    rw [c56] at p40
    rw [c56] at p41
    obtain ⟨v58, c59⟩ : ∃ v, I29 a0 10 = v := ⟨_, rfl⟩
    have b60 := iv15_10 hS36.1 ta0 c59
    rw [c59] at p42
    obtain ⟨v61, c62⟩ : ∃ v, I29 a0 11 = v := ⟨_, rfl⟩
    rw [c62] at p43
    obtain ⟨y63, c64⟩ : ∃ v, L31 a0 15 = v := ⟨_, rfl⟩
    rw [c64] at p44
    obtain ⟨v65, c66⟩ : ∃ v, I29 a0 12 = v := ⟨_, rfl⟩
    rw [c66] at p45
    obtain ⟨v67, c68⟩ : ∃ v, I29 a0 8 = v := ⟨_, rfl⟩
    have b69 := iv15_8 hS36.1 ta0 c68
    rw [c68] at p46
    refine tr_aload_n dX12_readPart_5 rfl ?_
    refine tr_iload_n dX12_readPart_6 rfl ?_
    refine tr_iload_n dX12_readPart_7 rfl ?_
    refine q_callVi hE (M' := mX12_readWhole) (as := [_, _]) dX12_readPart_8 lk12_161 inX12_readWhole seX12_readWhole myX12_readWhole (by decide) ⟨by decide, by decide⟩ rfl (kR15 hS36.1 ta0) (Nat.le_of_ble_eq_true rfl) rfl rfl (by decide) (by decide) (fk_X12_readWhole hS36.1 (gB) ((tkN gB gs)) ta0 (TxA.kp hT hS36 ta0 rfl rfl rfl (by decide +kernel) (by decide +kernel)) (by (try rw [c56]); first | done | with_reducible assumption | omega) (by (try rw [c56]); first | done | with_reducible assumption | omega) (by (try rw [c59]); first | done | with_reducible assumption | omega) (by (try rw [c62]); first | done | with_reducible assumption | omega) (by (try rw [c64]); first | done | assumption) (by (try rw [c66]); first | done | assumption) (by (try rw [c68]); first | done | assumption) (by (try rw [((hS36.cell ta0 (by decide +kernel)).trans c24)]); first | done | with_reducible assumption | omega)) ?_
    rintro v75 cn' K' N' I70 R71 L72 ⟨rfl, rfl, rfl, rfl, g73, dj76, -⟩
    have hS77 := hS36.tr g73 (by decide +kernel) (by decide +kernel)
    rcases dj76 with ⟨p78, p79, p80, p81, p82, p83, p84, p85, p86, p87, p88, p89, gl90, -⟩ | ⟨p91, p92, p93, p94, p95, -⟩ | ⟨p96, p97, p98, p99, p100, p101, -⟩
    · skip
      have hL102 := hL52.tr gl90 (by decide +kernel)
      obtain ⟨v103, c104⟩ : ∃ v, I70 a0 13 = v := ⟨_, rfl⟩
      rw [c104] at p82
      rw [c54] at p82
      obtain ⟨v105, c106⟩ : ∃ v, I70 a0 9 = v := ⟨_, rfl⟩
      have b107 := iv15_9 hS77.1 ta0 c106
      rw [c106] at p83
      rw [c106] at p84
      obtain ⟨v108, c109⟩ : ∃ v, I70 a0 10 = v := ⟨_, rfl⟩
      have b110 := iv15_10 hS77.1 ta0 c109
      rw [c109] at p85
      obtain ⟨v111, c112⟩ : ∃ v, I70 a0 11 = v := ⟨_, rfl⟩
      rw [c112] at p86
      obtain ⟨y113, c114⟩ : ∃ v, L72 a0 15 = v := ⟨_, rfl⟩
      rw [c114] at p87
      obtain ⟨v115, c116⟩ : ∃ v, I70 a0 12 = v := ⟨_, rfl⟩
      rw [c116] at p88
      obtain ⟨v117, c118⟩ : ∃ v, I70 a0 8 = v := ⟨_, rfl⟩
      have b119 := iv15_8 hS77.1 ta0 c118
      rw [c118] at p89
      obtain ⟨v120, c121⟩ : ∃ v, I70 a0 14 = v := ⟨_, rfl⟩
      exact tr_iret hZ dX12_readPart_11 rfl (by decide) (by decide) ⟨v75, rfl, rfl, rfl, rfl, rfl, hS77, (Or.inl ⟨(by first | done | with_reducible assumption | omega), (by first | done | with_reducible assumption | omega), (by first | done | with_reducible assumption | omega), (by first | done | with_reducible assumption | omega), (by first | done | with_reducible assumption | omega), (by first | done | with_reducible assumption | omega), (by (try rw [c104]); (try rw [c28]); first | done | with_reducible assumption | exact om_9fa72578 p39 p82), (by (try rw [c106]); first | done | with_reducible assumption | omega), (by (try rw [c106]); first | done | with_reducible assumption | omega), (by (try rw [c109]); first | done | with_reducible assumption | omega), (by (try rw [c112]); first | done | with_reducible assumption | omega), (by (try rw [c114]); first | done | assumption), (by (try rw [c116]); first | done | assumption), (by (try rw [c118]); first | done | assumption), hL102, trivial⟩), trivial⟩
    · skip
      obtain ⟨v122, c123⟩ : ∃ v, I70 a0 9 = v := ⟨_, rfl⟩
      have b124 := iv15_9 hS77.1 ta0 c123
      rw [c123] at p93
      obtain ⟨v125, c126⟩ : ∃ v, I70 a0 13 = v := ⟨_, rfl⟩
      rw [c126] at p94
      obtain ⟨v127, c128⟩ : ∃ v, I70 a0 14 = v := ⟨_, rfl⟩
      rw [c128] at p95
      obtain ⟨v129, c130⟩ : ∃ v, I70 a0 10 = v := ⟨_, rfl⟩
      have b131 := iv15_10 hS77.1 ta0 c130
      obtain ⟨v132, c133⟩ : ∃ v, I70 a0 11 = v := ⟨_, rfl⟩
      obtain ⟨y134, c135⟩ : ∃ v, L72 a0 15 = v := ⟨_, rfl⟩
      obtain ⟨v136, c137⟩ : ∃ v, I70 a0 12 = v := ⟨_, rfl⟩
      obtain ⟨v138, c139⟩ : ∃ v, I70 a0 8 = v := ⟨_, rfl⟩
      have b140 := iv15_8 hS77.1 ta0 c139
      exact tr_iret hZ dX12_readPart_11 rfl (by decide) (by decide) ⟨v75, rfl, rfl, rfl, rfl, rfl, hS77, (by first | exact Or.inr (Or.inl ⟨(by first | done | with_reducible assumption | omega), (by first | done | with_reducible assumption | fail), (by (try rw [c123]); first | done | with_reducible assumption | omega), (by (try rw [c126]); first | done | with_reducible assumption | omega), (by (try rw [c128]); first | done | with_reducible assumption | omega), trivial⟩) | exact Or.inr (Or.inr (Or.inl ⟨(by first | done | with_reducible assumption | omega), (by first | done | with_reducible assumption | omega), (by first | done | with_reducible assumption | omega), (by first | done | with_reducible assumption | omega), (by (try rw [c123]); first | done | with_reducible assumption | omega), (by (try rw [c126]); first | done | with_reducible assumption | omega), (by (try rw [c128]); first | done | with_reducible assumption | omega), trivial⟩))), trivial⟩
    · skip
      obtain ⟨v141, c142⟩ : ∃ v, I70 a0 9 = v := ⟨_, rfl⟩
      have b143 := iv15_9 hS77.1 ta0 c142
      rw [c142] at p99
      obtain ⟨v144, c145⟩ : ∃ v, I70 a0 13 = v := ⟨_, rfl⟩
      rw [c145] at p100
      obtain ⟨v146, c147⟩ : ∃ v, I70 a0 14 = v := ⟨_, rfl⟩
      rw [c147] at p101
      obtain ⟨v148, c149⟩ : ∃ v, I70 a0 10 = v := ⟨_, rfl⟩
      have b150 := iv15_10 hS77.1 ta0 c149
      obtain ⟨v151, c152⟩ : ∃ v, I70 a0 11 = v := ⟨_, rfl⟩
      obtain ⟨y153, c154⟩ : ∃ v, L72 a0 15 = v := ⟨_, rfl⟩
      obtain ⟨v155, c156⟩ : ∃ v, I70 a0 12 = v := ⟨_, rfl⟩
      obtain ⟨v157, c158⟩ : ∃ v, I70 a0 8 = v := ⟨_, rfl⟩
      have b159 := iv15_8 hS77.1 ta0 c158
      exact tr_iret hZ dX12_readPart_11 rfl (by decide) (by decide) ⟨v75, rfl, rfl, rfl, rfl, rfl, hS77, (Or.inr (Or.inr (Or.inr (⟨(by first | done | with_reducible assumption | omega), (by first | done | with_reducible assumption | omega), (by first | done | with_reducible assumption | omega), (by first | done | with_reducible assumption | omega), (by first | done | with_reducible assumption | omega), (by (try rw [c142]); first | done | with_reducible assumption | omega), (by (try rw [c145]); first | done | with_reducible assumption | omega), (by (try rw [c147]); first | done | with_reducible assumption | omega), trivial⟩)))), trivial⟩
  · skip
    obtain ⟨v160, c161⟩ : ∃ v, I29 a0 9 = v := ⟨_, rfl⟩
    have b162 := iv15_9 hS36.1 ta0 c161
    rw [c161] at p49
    obtain ⟨v163, c164⟩ : ∃ v, I29 a0 13 = v := ⟨_, rfl⟩
    rw [c164] at p50
    obtain ⟨v165, c166⟩ : ∃ v, I29 a0 14 = v := ⟨_, rfl⟩
    rw [c166] at p51
    refine tr_aload_n dX12_readPart_5 rfl ?_
    refine tr_iload_n dX12_readPart_6 rfl ?_
    refine tr_iload_n dX12_readPart_7 rfl ?_
    refine q_callVi hE (M' := mX12_readWhole) (as := [_, _]) dX12_readPart_8 lk12_161 inX12_readWhole seX12_readWhole myX12_readWhole (by decide) ⟨by decide, by decide⟩ rfl (kR15 hS36.1 ta0) (Nat.le_of_ble_eq_true rfl) rfl rfl (by decide) (by decide) (k_X12_readWhole hS36.1 ta0) ?_
    rintro v171 cn' K' N' I167 R168 L169 ⟨rfl, rfl, rfl, rfl, g170, p172, w173, -⟩
    have hS174 := hS36.tr g170 (by decide +kernel) (by decide +kernel)
    have ov175 := w173.over (by rw [c161]; exact om_394b70a2 p49)
    obtain ⟨v176, c177⟩ : ∃ v, I167 a0 9 = v := ⟨_, rfl⟩
    have b178 := iv15_9 hS174.1 ta0 c177
    obtain ⟨v179, c180⟩ : ∃ v, I167 a0 13 = v := ⟨_, rfl⟩
    obtain ⟨v181, c182⟩ : ∃ v, I167 a0 14 = v := ⟨_, rfl⟩
    (try rw [c177] at ov175)
    (try rw [c180] at ov175)
    (try rw [c182] at ov175)
    (try rw [c161] at ov175)
    (try rw [c164] at ov175)
    (try rw [c166] at ov175)
    obtain ⟨v183, c184⟩ : ∃ v, I167 a0 10 = v := ⟨_, rfl⟩
    have b185 := iv15_10 hS174.1 ta0 c184
    obtain ⟨v186, c187⟩ : ∃ v, I167 a0 11 = v := ⟨_, rfl⟩
    obtain ⟨y188, c189⟩ : ∃ v, L169 a0 15 = v := ⟨_, rfl⟩
    obtain ⟨v190, c191⟩ : ∃ v, I167 a0 12 = v := ⟨_, rfl⟩
    obtain ⟨v192, c193⟩ : ∃ v, I167 a0 8 = v := ⟨_, rfl⟩
    have b194 := iv15_8 hS174.1 ta0 c193
    exact tr_iret hZ dX12_readPart_11 rfl (by decide) (by decide) ⟨v171, rfl, rfl, rfl, rfl, rfl, hS174, (by first | exact Or.inr (Or.inl ⟨(by first | done | with_reducible assumption | omega), (by first | done | with_reducible assumption | omega), (by (try rw [c177]); first | done | with_reducible assumption | exact om_394b70a2 ov175.1), (by (try rw [c180]); first | done | with_reducible assumption | exact om_9fbcd811 p50 ov175.2.1), (by (try rw [c182]); first | done | with_reducible assumption | exact om_25b791d0 p9 p51 ov175.2.2), trivial⟩) | exact Or.inr (Or.inr (Or.inl ⟨(by first | done | with_reducible assumption | omega), (by first | done | with_reducible assumption | omega), (by first | done | with_reducible assumption | omega), (by first | done | with_reducible assumption | omega), (by (try rw [c177]); first | done | with_reducible assumption | omega), (by (try rw [c180]); first | done | with_reducible assumption | omega), (by (try rw [c182]); first | done | with_reducible assumption | omega), trivial⟩))), trivial⟩
set_option maxHeartbeats 4000000 in
theorem fk_X12_isName {l : Launch} {T : Nat → Nat} {cn : Nat} {K N : Nat → Nat} {I0 : cz_I} {R0 : cz_R} {L0 : cz_L} {d : Int} (hW0 : Wf T cn K N I0 R0 d) (gB : cz_B) (gs : Int) {a0 : Nat} (ta0 : T a0 = 15) (pre0 : (I0 a0 9).toInt = (tkM gB gs)) (pre1 : (AtW ((tkK gB gs)) ((L0 a0 15).toInt) ((tkW gB gs)))) : ConE l mX12_isName [.ref a0] cn K N I0 R0 L0 (ca_i (fun v cn' K' N' I' R' L' => cn = cn' ∧ K = K' ∧ N = N' ∧ I0 = I' ∧ R0 = R' ∧ L0 = L' ∧ (0 ≤ v.toInt ∧ v.toInt ≤ 1) ∧ (((v.toInt = 1) ∧ ((isN gB gs) = 1) ∧ ((tkK gB gs) = 1) ∧ True) ∨ ((v.toInt = 0) ∧ ((isN gB gs) ≠ 1) ∧ True)) ∧ True)) := by
  refine ConE.of (by decide +kernel) rfl (Nat.le_of_ble_eq_true rfl) rfl (fun X hX hZ hE => ?_)
  subst hX
  obtain ⟨v1, c2⟩ : ∃ v, I0 a0 9 = v := ⟨_, rfl⟩
  have b3 := iv15_9 hW0 ta0 c2
  have p4 := pre0
  rw [c2] at p4
  obtain ⟨y5, c6⟩ : ∃ v, L0 a0 15 = v := ⟨_, rfl⟩
  have p7 := pre1
  rw [c6] at p7
  have ht8 := tkM_of gB gs
  refine tr_aload_n dX12_isName_0 rfl ?_
  refine q_getI dX12_isName_1 fl12_99 (kR15 hW0 ta0) c2 ?_
  refine q_iconst dX12_isName_4 (by decide) ?_
  intro v9 h10
  refine q_icmp_ne 62 dX12_isName_5 (by decide) (fun h11 => ?_) (fun h11 => ?_)
  · skip
    refine q_iconst dX12_isName_62 (by decide) ?_
    intro v12 h13
    have sr14 : isN gB gs = 0 := by rw [isN, if_neg (fun z => by exact om_58d653dc p4 ht8 h10 h11 z.2.1 z.1)]
    exact tr_zret hZ dX12_isName_63 rfl (ti_b01 (by exact om_d99fa9e4 h13) (by exact om_d3de7ec9 h13)) (by decide) (by decide) ⟨v12, rfl, rfl, rfl, rfl, rfl, rfl, rfl, (by exact om_3b50ecb9 h13), (Or.inr (⟨(by first | done | with_reducible assumption | omega), (by first | done | with_reducible assumption | exact om_70cba76f sr14), trivial⟩)), trivial⟩
  · skip
    refine tr_aload_n dX12_isName_8 rfl ?_
    refine tr_ldcS dX12_isName_9 ld12_164 ?_
    refine q_callVi hE (M' := mX12_isWord) (as := [_]) dX12_isName_11 lk12_138 inX12_isWord seX12_isWord myX12_isWord (by decide) ⟨by decide, by decide⟩ rfl (kR15 hW0 ta0) (Nat.le_of_ble_eq_true rfl) rfl rfl (by decide) (by decide) (fk_X12_isWord hW0 (gB) (gs) ta0 (by decide) (by (try rw [c2]); first | done | with_reducible assumption | omega) (by (try rw [c6]); first | done | assumption)) ?_
    rintro v20 cn' K' N' I15 R16 L17 ⟨rfl, rfl, rfl, rfl, rfl, rfl, h21, dj22, -⟩
    (try rw [pk_1] at dj22)
    rcases dj22 with ⟨p23, p24, p25, -⟩ | ⟨p26, p27, -⟩
    · skip
      refine q_if_ne 62 dX12_isName_14 (by decide) (fun h28 => ?_) (fun h28 => ?_)
      · skip
        refine q_iconst dX12_isName_62 (by decide) ?_
        intro v29 h30
        have sr31k : srt gB gs = 10 := srt_10 (by exact om_ee8a1e2d p24) (by exact om_46584e8e p25)
        have sr31 : isN gB gs = 0 := by rw [isN, if_neg (fun z => by exact om_73c9b4fe sr31k z.2.2)]
        exact tr_zret hZ dX12_isName_63 rfl (ti_b01 (by exact om_d99fa9e4 h30) (by exact om_d3de7ec9 h30)) (by decide) (by decide) ⟨v29, rfl, rfl, rfl, rfl, rfl, rfl, rfl, (by exact om_3b50ecb9 h30), (Or.inr (⟨(by first | done | with_reducible assumption | omega), (by first | done | with_reducible assumption | exact om_70cba76f sr31), trivial⟩)), trivial⟩
      · skip
        exfalso; exact om_3624102b p23 h28
    · skip
      refine q_if_ne 62 dX12_isName_14 (by decide) (fun h32 => ?_) (fun h32 => ?_)
      · skip
        exfalso; exact om_3a97d4a5 p26 h32
      · skip
        refine tr_aload_n dX12_isName_17 rfl ?_
        refine tr_ldcS dX12_isName_18 ld12_166 ?_
        refine q_callVi hE (M' := mX12_isWord) (as := [_]) dX12_isName_20 lk12_138 inX12_isWord seX12_isWord myX12_isWord (by decide) ⟨by decide, by decide⟩ rfl (kR15 hW0 ta0) (Nat.le_of_ble_eq_true rfl) rfl rfl (by decide) (by decide) (fk_X12_isWord hW0 (gB) (gs) ta0 (by decide) (by (try rw [c2]); first | done | with_reducible assumption | omega) (by (try rw [c6]); first | done | assumption)) ?_
        rintro v38 cn' K' N' I33 R34 L35 ⟨rfl, rfl, rfl, rfl, rfl, rfl, h39, dj40, -⟩
        (try rw [pk_7] at dj40)
        rcases dj40 with ⟨p41, p42, p43, -⟩ | ⟨p44, p45, -⟩
        · skip
          refine q_if_ne 62 dX12_isName_23 (by decide) (fun h46 => ?_) (fun h46 => ?_)
          · skip
            refine q_iconst dX12_isName_62 (by decide) ?_
            intro v47 h48
            have sr49k : srt gB gs = 0 := srt_0 (by exact om_ee8a1e2d p42) (by exact om_3b285b84 p43)
            have sr49 : isN gB gs = 0 := by rw [isN, if_neg (fun z => by exact om_74593842 sr49k z.2.2)]
            exact tr_zret hZ dX12_isName_63 rfl (ti_b01 (by exact om_d99fa9e4 h48) (by exact om_d3de7ec9 h48)) (by decide) (by decide) ⟨v47, rfl, rfl, rfl, rfl, rfl, rfl, rfl, (by exact om_3b50ecb9 h48), (Or.inr (⟨(by first | done | with_reducible assumption | omega), (by first | done | with_reducible assumption | exact om_70cba76f sr49), trivial⟩)), trivial⟩
          · skip
            exfalso; exact om_3624102b p41 h46
        · skip
          refine q_if_ne 62 dX12_isName_23 (by decide) (fun h50 => ?_) (fun h50 => ?_)
          · skip
            exfalso; exact om_3a97d4a5 p44 h50
          · skip
            refine tr_aload_n dX12_isName_26 rfl ?_
            refine tr_ldcS dX12_isName_27 ld12_168 ?_
            refine q_callVi hE (M' := mX12_isWord) (as := [_]) dX12_isName_29 lk12_138 inX12_isWord seX12_isWord myX12_isWord (by decide) ⟨by decide, by decide⟩ rfl (kR15 hW0 ta0) (Nat.le_of_ble_eq_true rfl) rfl rfl (by decide) (by decide) (fk_X12_isWord hW0 (gB) (gs) ta0 (by decide) (by (try rw [c2]); first | done | with_reducible assumption | omega) (by (try rw [c6]); first | done | assumption)) ?_
            rintro v56 cn' K' N' I51 R52 L53 ⟨rfl, rfl, rfl, rfl, rfl, rfl, h57, dj58, -⟩
            (try rw [pk_11] at dj58)
            rcases dj58 with ⟨p59, p60, p61, -⟩ | ⟨p62, p63, -⟩
            · skip
              refine q_if_ne 62 dX12_isName_32 (by decide) (fun h64 => ?_) (fun h64 => ?_)
              · skip
                refine q_iconst dX12_isName_62 (by decide) ?_
                intro v65 h66
                have sr67k : srt gB gs = 1 := srt_1 (by exact om_ee8a1e2d p60) (by exact om_cc231fd3 p61)
                have sr67 : isN gB gs = 0 := by rw [isN, if_neg (fun z => by exact om_faecbfe8 sr67k z.2.2)]
                exact tr_zret hZ dX12_isName_63 rfl (ti_b01 (by exact om_d99fa9e4 h66) (by exact om_d3de7ec9 h66)) (by decide) (by decide) ⟨v65, rfl, rfl, rfl, rfl, rfl, rfl, rfl, (by exact om_3b50ecb9 h66), (Or.inr (⟨(by first | done | with_reducible assumption | omega), (by first | done | with_reducible assumption | exact om_70cba76f sr67), trivial⟩)), trivial⟩
              · skip
                exfalso; exact om_3624102b p59 h64
            · skip
              refine q_if_ne 62 dX12_isName_32 (by decide) (fun h68 => ?_) (fun h68 => ?_)
              · skip
                exfalso; exact om_3a97d4a5 p62 h68
              · skip
                refine tr_aload_n dX12_isName_35 rfl ?_
                refine tr_ldcS dX12_isName_36 ld12_170 ?_
                refine q_callVi hE (M' := mX12_isWord) (as := [_]) dX12_isName_38 lk12_138 inX12_isWord seX12_isWord myX12_isWord (by decide) ⟨by decide, by decide⟩ rfl (kR15 hW0 ta0) (Nat.le_of_ble_eq_true rfl) rfl rfl (by decide) (by decide) (fk_X12_isWord hW0 (gB) (gs) ta0 (by decide) (by (try rw [c2]); first | done | with_reducible assumption | omega) (by (try rw [c6]); first | done | assumption)) ?_
                rintro v74 cn' K' N' I69 R70 L71 ⟨rfl, rfl, rfl, rfl, rfl, rfl, h75, dj76, -⟩
                (try rw [pk_17] at dj76)
                rcases dj76 with ⟨p77, p78, p79, -⟩ | ⟨p80, p81, -⟩
                · skip
                  refine q_if_ne 62 dX12_isName_41 (by decide) (fun h82 => ?_) (fun h82 => ?_)
                  · skip
                    refine q_iconst dX12_isName_62 (by decide) ?_
                    intro v83 h84
                    have sr85k : srt gB gs = 2 := srt_2 (by exact om_ee8a1e2d p78) (by exact om_fdfade78 p79)
                    have sr85 : isN gB gs = 0 := by rw [isN, if_neg (fun z => by exact om_2210f5b1 sr85k z.2.2)]
                    exact tr_zret hZ dX12_isName_63 rfl (ti_b01 (by exact om_d99fa9e4 h84) (by exact om_d3de7ec9 h84)) (by decide) (by decide) ⟨v83, rfl, rfl, rfl, rfl, rfl, rfl, rfl, (by exact om_3b50ecb9 h84), (Or.inr (⟨(by first | done | with_reducible assumption | omega), (by first | done | with_reducible assumption | exact om_70cba76f sr85), trivial⟩)), trivial⟩
                  · skip
                    exfalso; exact om_3624102b p77 h82
                · skip
                  refine q_if_ne 62 dX12_isName_41 (by decide) (fun h86 => ?_) (fun h86 => ?_)
                  · skip
                    exfalso; exact om_3a97d4a5 p80 h86
                  · skip
                    refine tr_aload_n dX12_isName_44 rfl ?_
                    refine tr_ldcS dX12_isName_45 ld12_172 ?_
                    refine q_callVi hE (M' := mX12_isWord) (as := [_]) dX12_isName_47 lk12_138 inX12_isWord seX12_isWord myX12_isWord (by decide) ⟨by decide, by decide⟩ rfl (kR15 hW0 ta0) (Nat.le_of_ble_eq_true rfl) rfl rfl (by decide) (by decide) (fk_X12_isWord hW0 (gB) (gs) ta0 (by decide) (by (try rw [c2]); first | done | with_reducible assumption | omega) (by (try rw [c6]); first | done | assumption)) ?_
                    rintro v92 cn' K' N' I87 R88 L89 ⟨rfl, rfl, rfl, rfl, rfl, rfl, h93, dj94, -⟩
                    (try rw [pk_22] at dj94)
                    rcases dj94 with ⟨p95, p96, p97, -⟩ | ⟨p98, p99, -⟩
                    · skip
                      refine q_if_ne 62 dX12_isName_50 (by decide) (fun h100 => ?_) (fun h100 => ?_)
                      · skip
                        refine q_iconst dX12_isName_62 (by decide) ?_
                        intro v101 h102
                        have sr103k : srt gB gs = 3 := srt_3 (by exact om_ee8a1e2d p96) (by exact om_747cac53 p97)
                        have sr103 : isN gB gs = 0 := by rw [isN, if_neg (fun z => by exact om_59cfd47d sr103k z.2.2)]
                        exact tr_zret hZ dX12_isName_63 rfl (ti_b01 (by exact om_d99fa9e4 h102) (by exact om_d3de7ec9 h102)) (by decide) (by decide) ⟨v101, rfl, rfl, rfl, rfl, rfl, rfl, rfl, (by exact om_3b50ecb9 h102), (Or.inr (⟨(by first | done | with_reducible assumption | omega), (by first | done | with_reducible assumption | exact om_70cba76f sr103), trivial⟩)), trivial⟩
                      · skip
                        exfalso; exact om_3624102b p95 h100
                    · skip
                      refine q_if_ne 62 dX12_isName_50 (by decide) (fun h104 => ?_) (fun h104 => ?_)
                      · skip
                        exfalso; exact om_3a97d4a5 p98 h104
                      · skip
                        refine tr_aload_n dX12_isName_53 rfl ?_
                        refine tr_ldcS dX12_isName_54 ld12_174 ?_
                        refine q_callVi hE (M' := mX12_isWord) (as := [_]) dX12_isName_56 lk12_138 inX12_isWord seX12_isWord myX12_isWord (by decide) ⟨by decide, by decide⟩ rfl (kR15 hW0 ta0) (Nat.le_of_ble_eq_true rfl) rfl rfl (by decide) (by decide) (fk_X12_isWord hW0 (gB) (gs) ta0 (by decide) (by (try rw [c2]); first | done | with_reducible assumption | omega) (by (try rw [c6]); first | done | assumption)) ?_
                        rintro v110 cn' K' N' I105 R106 L107 ⟨rfl, rfl, rfl, rfl, rfl, rfl, h111, dj112, -⟩
                        (try rw [pk_4] at dj112)
                        rcases dj112 with ⟨p113, p114, p115, -⟩ | ⟨p116, p117, -⟩
                        · skip
                          refine q_if_eq 64 dX12_isName_59 (by decide) (fun h118 => ?_) (fun h118 => ?_)
                          · skip
                            exfalso; exact om_3624102b p113 h118
                          · skip
                            refine q_iconst dX12_isName_62 (by decide) ?_
                            intro v119 h120
                            have sr121k : srt gB gs = 4 := srt_4 (by exact om_ee8a1e2d p114) (by exact om_2ccd9767 p115)
                            have sr121 : isN gB gs = 0 := by rw [isN, if_neg (fun z => by exact om_aa3f522c sr121k z.2.2)]
                            exact tr_zret hZ dX12_isName_63 rfl (ti_b01 (by exact om_d99fa9e4 h120) (by exact om_d3de7ec9 h120)) (by decide) (by decide) ⟨v119, rfl, rfl, rfl, rfl, rfl, rfl, rfl, (by exact om_3b50ecb9 h120), (Or.inr (⟨(by first | done | with_reducible assumption | omega), (by first | done | with_reducible assumption | exact om_70cba76f sr121), trivial⟩)), trivial⟩
                        · skip
                          refine q_if_eq 64 dX12_isName_59 (by decide) (fun h122 => ?_) (fun h122 => ?_)
                          · skip
                            refine tr_aload_n dX12_isName_64 rfl ?_
                            refine tr_ldcS dX12_isName_65 ld12_176 ?_
                            refine q_callVi hE (M' := mX12_isWord) (as := [_]) dX12_isName_67 lk12_138 inX12_isWord seX12_isWord myX12_isWord (by decide) ⟨by decide, by decide⟩ rfl (kR15 hW0 ta0) (Nat.le_of_ble_eq_true rfl) rfl rfl (by decide) (by decide) (fk_X12_isWord hW0 (gB) (gs) ta0 (by decide) (by (try rw [c2]); first | done | with_reducible assumption | omega) (by (try rw [c6]); first | done | assumption)) ?_
                            rintro v128 cn' K' N' I123 R124 L125 ⟨rfl, rfl, rfl, rfl, rfl, rfl, h129, dj130, -⟩
                            (try rw [pk_6] at dj130)
                            rcases dj130 with ⟨p131, p132, p133, -⟩ | ⟨p134, p135, -⟩
                            · skip
                              refine q_if_ne 122 dX12_isName_70 (by decide) (fun h136 => ?_) (fun h136 => ?_)
                              · skip
                                refine q_iconst dX12_isName_122 (by decide) ?_
                                intro v137 h138
                                have sr139k : srt gB gs = 5 := srt_5 (by exact om_ee8a1e2d p132) (by exact om_519e19c2 p133)
                                have sr139 : isN gB gs = 0 := by rw [isN, if_neg (fun z => by exact om_88c27aab sr139k z.2.2)]
                                exact tr_zret hZ dX12_isName_123 rfl (ti_b01 (by exact om_d99fa9e4 h138) (by exact om_d3de7ec9 h138)) (by decide) (by decide) ⟨v137, rfl, rfl, rfl, rfl, rfl, rfl, rfl, (by exact om_3b50ecb9 h138), (Or.inr (⟨(by first | done | with_reducible assumption | omega), (by first | done | with_reducible assumption | exact om_70cba76f sr139), trivial⟩)), trivial⟩
                              · skip
                                exfalso; exact om_3624102b p131 h136
                            · skip
                              refine q_if_ne 122 dX12_isName_70 (by decide) (fun h140 => ?_) (fun h140 => ?_)
                              · skip
                                exfalso; exact om_3a97d4a5 p134 h140
                              · skip
                                refine tr_aload_n dX12_isName_73 rfl ?_
                                refine tr_ldcS dX12_isName_74 ld12_178 ?_
                                refine q_callVi hE (M' := mX12_isWord) (as := [_]) dX12_isName_76 lk12_138 inX12_isWord seX12_isWord myX12_isWord (by decide) ⟨by decide, by decide⟩ rfl (kR15 hW0 ta0) (Nat.le_of_ble_eq_true rfl) rfl rfl (by decide) (by decide) (fk_X12_isWord hW0 (gB) (gs) ta0 (by decide) (by (try rw [c2]); first | done | with_reducible assumption | omega) (by (try rw [c6]); first | done | assumption)) ?_
                                rintro v146 cn' K' N' I141 R142 L143 ⟨rfl, rfl, rfl, rfl, rfl, rfl, h147, dj148, -⟩
                                (try rw [pk_0] at dj148)
                                rcases dj148 with ⟨p149, p150, p151, -⟩ | ⟨p152, p153, -⟩
                                · skip
                                  refine q_if_ne 122 dX12_isName_79 (by decide) (fun h154 => ?_) (fun h154 => ?_)
                                  · skip
                                    refine q_iconst dX12_isName_122 (by decide) ?_
                                    intro v155 h156
                                    have sr157k : srt gB gs = 6 := srt_6 (by exact om_ee8a1e2d p150) (by exact om_7c4563db p151)
                                    have sr157 : isN gB gs = 0 := by rw [isN, if_neg (fun z => by exact om_00dfe8fe sr157k z.2.2)]
                                    exact tr_zret hZ dX12_isName_123 rfl (ti_b01 (by exact om_d99fa9e4 h156) (by exact om_d3de7ec9 h156)) (by decide) (by decide) ⟨v155, rfl, rfl, rfl, rfl, rfl, rfl, rfl, (by exact om_3b50ecb9 h156), (Or.inr (⟨(by first | done | with_reducible assumption | omega), (by first | done | with_reducible assumption | exact om_70cba76f sr157), trivial⟩)), trivial⟩
                                  · skip
                                    exfalso; exact om_3624102b p149 h154
                                · skip
                                  refine q_if_ne 122 dX12_isName_79 (by decide) (fun h158 => ?_) (fun h158 => ?_)
                                  · skip
                                    exfalso; exact om_3a97d4a5 p152 h158
                                  · skip
                                    refine tr_aload_n dX12_isName_82 rfl ?_
                                    refine tr_ldcS dX12_isName_83 ld12_180 ?_
                                    refine q_callVi hE (M' := mX12_isWord) (as := [_]) dX12_isName_85 lk12_138 inX12_isWord seX12_isWord myX12_isWord (by decide) ⟨by decide, by decide⟩ rfl (kR15 hW0 ta0) (Nat.le_of_ble_eq_true rfl) rfl rfl (by decide) (by decide) (fk_X12_isWord hW0 (gB) (gs) ta0 (by decide) (by (try rw [c2]); first | done | with_reducible assumption | omega) (by (try rw [c6]); first | done | assumption)) ?_
                                    rintro v164 cn' K' N' I159 R160 L161 ⟨rfl, rfl, rfl, rfl, rfl, rfl, h165, dj166, -⟩
                                    (try rw [pk_26] at dj166)
                                    rcases dj166 with ⟨p167, p168, p169, -⟩ | ⟨p170, p171, -⟩
                                    · skip
                                      refine q_if_ne 122 dX12_isName_88 (by decide) (fun h172 => ?_) (fun h172 => ?_)
                                      · skip
                                        refine q_iconst dX12_isName_122 (by decide) ?_
                                        intro v173 h174
                                        have sr175k : srt gB gs = 7 := srt_7 (by exact om_ee8a1e2d p168) (by exact om_f0efd43f p169)
                                        have sr175 : isN gB gs = 0 := by rw [isN, if_neg (fun z => by exact om_580ab8fb sr175k z.2.2)]
                                        exact tr_zret hZ dX12_isName_123 rfl (ti_b01 (by exact om_d99fa9e4 h174) (by exact om_d3de7ec9 h174)) (by decide) (by decide) ⟨v173, rfl, rfl, rfl, rfl, rfl, rfl, rfl, (by exact om_3b50ecb9 h174), (Or.inr (⟨(by first | done | with_reducible assumption | omega), (by first | done | with_reducible assumption | exact om_70cba76f sr175), trivial⟩)), trivial⟩
                                      · skip
                                        exfalso; exact om_3624102b p167 h172
                                    · skip
                                      refine q_if_ne 122 dX12_isName_88 (by decide) (fun h176 => ?_) (fun h176 => ?_)
                                      · skip
                                        exfalso; exact om_3a97d4a5 p170 h176
                                      · skip
                                        refine tr_aload_n dX12_isName_91 rfl ?_
                                        refine tr_ldcS dX12_isName_92 ld12_182 ?_
                                        refine q_callVi hE (M' := mX12_isWord) (as := [_]) dX12_isName_94 lk12_138 inX12_isWord seX12_isWord myX12_isWord (by decide) ⟨by decide, by decide⟩ rfl (kR15 hW0 ta0) (Nat.le_of_ble_eq_true rfl) rfl rfl (by decide) (by decide) (fk_X12_isWord hW0 (gB) (gs) ta0 (by decide) (by (try rw [c2]); first | done | with_reducible assumption | omega) (by (try rw [c6]); first | done | assumption)) ?_
                                        rintro v182 cn' K' N' I177 R178 L179 ⟨rfl, rfl, rfl, rfl, rfl, rfl, h183, dj184, -⟩
                                        (try rw [pk_5] at dj184)
                                        rcases dj184 with ⟨p185, p186, p187, -⟩ | ⟨p188, p189, -⟩
                                        · skip
                                          refine q_if_ne 122 dX12_isName_97 (by decide) (fun h190 => ?_) (fun h190 => ?_)
                                          · skip
                                            refine q_iconst dX12_isName_122 (by decide) ?_
                                            intro v191 h192
                                            have sr193k : srt gB gs = 8 := srt_8 (by exact om_ee8a1e2d p186) (by exact om_0a66535f p187)
                                            have sr193 : isN gB gs = 0 := by rw [isN, if_neg (fun z => by exact om_4fc06e18 sr193k z.2.2)]
                                            exact tr_zret hZ dX12_isName_123 rfl (ti_b01 (by exact om_d99fa9e4 h192) (by exact om_d3de7ec9 h192)) (by decide) (by decide) ⟨v191, rfl, rfl, rfl, rfl, rfl, rfl, rfl, (by exact om_3b50ecb9 h192), (Or.inr (⟨(by first | done | with_reducible assumption | omega), (by first | done | with_reducible assumption | exact om_70cba76f sr193), trivial⟩)), trivial⟩
                                          · skip
                                            exfalso; exact om_3624102b p185 h190
                                        · skip
                                          refine q_if_ne 122 dX12_isName_97 (by decide) (fun h194 => ?_) (fun h194 => ?_)
                                          · skip
                                            exfalso; exact om_3a97d4a5 p188 h194
                                          · skip
                                            refine tr_aload_n dX12_isName_100 rfl ?_
                                            refine tr_ldcS dX12_isName_101 ld12_184 ?_
                                            refine q_callVi hE (M' := mX12_isWord) (as := [_]) dX12_isName_103 lk12_138 inX12_isWord seX12_isWord myX12_isWord (by decide) ⟨by decide, by decide⟩ rfl (kR15 hW0 ta0) (Nat.le_of_ble_eq_true rfl) rfl rfl (by decide) (by decide) (fk_X12_isWord hW0 (gB) (gs) ta0 (by decide) (by (try rw [c2]); first | done | with_reducible assumption | omega) (by (try rw [c6]); first | done | assumption)) ?_
                                            rintro v200 cn' K' N' I195 R196 L197 ⟨rfl, rfl, rfl, rfl, rfl, rfl, h201, dj202, -⟩
                                            (try rw [pk_23] at dj202)
                                            rcases dj202 with ⟨p203, p204, p205, -⟩ | ⟨p206, p207, -⟩
                                            · skip
                                              refine q_if_ne 122 dX12_isName_106 (by decide) (fun h208 => ?_) (fun h208 => ?_)
                                              · skip
                                                refine q_iconst dX12_isName_122 (by decide) ?_
                                                intro v209 h210
                                                have sr211k : srt gB gs = 9 := srt_9 (by exact om_ee8a1e2d p204) (by exact om_ec60c104 p205)
                                                have sr211 : isN gB gs = 0 := by rw [isN, if_neg (fun z => by exact om_51421af8 sr211k z.2.2)]
                                                exact tr_zret hZ dX12_isName_123 rfl (ti_b01 (by exact om_d99fa9e4 h210) (by exact om_d3de7ec9 h210)) (by decide) (by decide) ⟨v209, rfl, rfl, rfl, rfl, rfl, rfl, rfl, (by exact om_3b50ecb9 h210), (Or.inr (⟨(by first | done | with_reducible assumption | omega), (by first | done | with_reducible assumption | exact om_70cba76f sr211), trivial⟩)), trivial⟩
                                              · skip
                                                exfalso; exact om_3624102b p203 h208
                                            · skip
                                              refine q_if_ne 122 dX12_isName_106 (by decide) (fun h212 => ?_) (fun h212 => ?_)
                                              · skip
                                                exfalso; exact om_3a97d4a5 p206 h212
                                              · skip
                                                refine tr_aload_n dX12_isName_109 rfl ?_
                                                refine tr_ldcS dX12_isName_110 ld12_186 ?_
                                                refine q_callVi hE (M' := mX12_isWord) (as := [_]) dX12_isName_112 lk12_138 inX12_isWord seX12_isWord myX12_isWord (by decide) ⟨by decide, by decide⟩ rfl (kR15 hW0 ta0) (Nat.le_of_ble_eq_true rfl) rfl rfl (by decide) (by decide) (fk_X12_isWord hW0 (gB) (gs) ta0 (by decide) (by (try rw [c2]); first | done | with_reducible assumption | omega) (by (try rw [c6]); first | done | assumption)) ?_
                                                rintro v218 cn' K' N' I213 R214 L215 ⟨rfl, rfl, rfl, rfl, rfl, rfl, h219, dj220, -⟩
                                                (try rw [pk_10] at dj220)
                                                rcases dj220 with ⟨p221, p222, p223, -⟩ | ⟨p224, p225, -⟩
                                                · skip
                                                  refine q_if_ne 122 dX12_isName_115 (by decide) (fun h226 => ?_) (fun h226 => ?_)
                                                  · skip
                                                    refine q_iconst dX12_isName_122 (by decide) ?_
                                                    intro v227 h228
                                                    have sr229 : isN gB gs = 0 := by rw [isN, if_neg (fun z => z.2.1 (by exact om_8d3f018d p223))]
                                                    exact tr_zret hZ dX12_isName_123 rfl (ti_b01 (by exact om_d99fa9e4 h228) (by exact om_d3de7ec9 h228)) (by decide) (by decide) ⟨v227, rfl, rfl, rfl, rfl, rfl, rfl, rfl, (by exact om_3b50ecb9 h228), (Or.inr (⟨(by first | done | with_reducible assumption | omega), (by first | done | with_reducible assumption | exact om_70cba76f sr229), trivial⟩)), trivial⟩
                                                  · skip
                                                    exfalso; exact om_3624102b p221 h226
                                                · skip
                                                  refine q_if_ne 122 dX12_isName_115 (by decide) (fun h230 => ?_) (fun h230 => ?_)
                                                  · skip
                                                    exfalso; exact om_3a97d4a5 p224 h230
                                                  · skip
                                                    refine q_iconst dX12_isName_118 (by decide) ?_
                                                    intro v231 h232
                                                    refine tr_goto 123 dX12_isName_119 (by decide) ?_
                                                    have sr233k : srt gB gs = -1 := srt_no (fun z => p45 ⟨by exact om_fdf7578a p4 ht8 h10 h11, z⟩) (fun z => p63 ⟨by exact om_fdf7578a p4 ht8 h10 h11, z⟩) (fun z => p81 ⟨by exact om_fdf7578a p4 ht8 h10 h11, z⟩) (fun z => p99 ⟨by exact om_fdf7578a p4 ht8 h10 h11, z⟩) (fun z => p117 ⟨by exact om_fdf7578a p4 ht8 h10 h11, z⟩) (fun z => p135 ⟨by exact om_fdf7578a p4 ht8 h10 h11, z⟩) (fun z => p153 ⟨by exact om_fdf7578a p4 ht8 h10 h11, z⟩) (fun z => p171 ⟨by exact om_fdf7578a p4 ht8 h10 h11, z⟩) (fun z => p189 ⟨by exact om_fdf7578a p4 ht8 h10 h11, z⟩) (fun z => p207 ⟨by exact om_fdf7578a p4 ht8 h10 h11, z⟩) (fun z => p27 ⟨by exact om_fdf7578a p4 ht8 h10 h11, z⟩)
                                                    have sr233 : isN gB gs = 1 := by rw [isN, if_pos ⟨by exact om_fdf7578a p4 ht8 h10 h11, fun z => p225 ⟨by exact om_fdf7578a p4 ht8 h10 h11, z⟩, sr233k⟩]
                                                    exact tr_zret hZ dX12_isName_123 rfl (ti_b01 (by exact om_f9079521 h232) (by exact om_e6632817 h232)) (by decide) (by decide) ⟨v231, rfl, rfl, rfl, rfl, rfl, rfl, rfl, (by exact om_d753bc65 h232), (Or.inl ⟨(by first | done | with_reducible assumption | omega), (by first | done | with_reducible assumption | omega), (by first | done | with_reducible assumption | exact om_fdf7578a p4 ht8 h10 h11), trivial⟩), trivial⟩
                          · skip
                            exfalso; exact om_3a97d4a5 p116 h122
def wik_X12_begins : List Nat := [968, 969, 970, 971, 972, 973, 974]
def wrk_X12_begins : List Nat := []
def wlk_X12_begins : List Nat := [975]
set_option maxHeartbeats 4000000 in
theorem fk_X12_begins {l : Launch} {T : Nat → Nat} {cn : Nat} {K N : Nat → Nat} {I0 : cz_I} {R0 : cz_R} {L0 : cz_L} {d : Int} (hW0 : Wf T cn K N I0 R0 d) (gB : cz_B) (gs : Int) (gQ : Nat → Int) {a0 : Nat} (ta0 : T a0 = 15) {x1 : Int32} {x2 : Int32} (hT : ∀ t, R0 a0 5 = some t → Tx I0 t gB) (pre0 : (I0 a0 9).toInt = (tkM gB gs)) (pre1 : (I0 a0 9).toInt ≤ 4) (pre2 : (I0 a0 10).toInt = (tkS gB gs)) (pre3 : (I0 a0 11).toInt = (tkG gB gs)) (pre4 : (AtW ((tkK gB gs)) ((L0 a0 15).toInt) ((tkW gB gs)))) (pre5 : (AtV ((tkK gB gs)) ((I0 a0 12).toInt) ((tkV gB gs)))) (pre6 : (AtN ((tkK gB gs)) ((I0 a0 8).toInt) ((tkN gB gs)))) (pre7 : (I0 a0 7).toInt = (gB.2)) (pre8 : ∀ b1, R0 a0 4 = some b1 → (I0 b1 0).toInt = (gQ 0)) (pre9 : (tkK gB gs) = 1) (nn4 : ∃ b, R0 a0 4 = some b) : ConE l mX12_begins [.ref a0, .int x1, .int x2] cn K N I0 R0 L0 (ca_v (fun cn' K' N' I' R' L' => cn = cn' ∧ K = K' ∧ N = N' ∧ R0 = R' ∧ St T cn K N d wik_X12_begins wrk_X12_begins I0 R0 I' R0 ∧ (((x1.toInt ≠ x2.toInt) ∧ ((gQ 0) ≠ 0) ∧ ((I' a0 13).toInt = (I0 a0 13).toInt) ∧ ((I' a0 9).toInt = (tkM gB (tkN gB gs))) ∧ ((I' a0 9).toInt ≤ 4) ∧ ((I' a0 10).toInt = (tkS gB (tkN gB gs))) ∧ ((I' a0 11).toInt = (tkG gB (tkN gB gs))) ∧ ((AtW ((tkK gB (tkN gB gs))) ((L' a0 15).toInt) ((tkW gB (tkN gB gs))))) ∧ ((AtV ((tkK gB (tkN gB gs))) ((I' a0 12).toInt) ((tkV gB (tkN gB gs))))) ∧ ((AtN ((tkK gB (tkN gB gs))) ((I' a0 8).toInt) ((tkN gB (tkN gB gs))))) ∧ LgS T wlk_X12_begins L0 L' ∧ True) ∨ ((x1.toInt = x2.toInt) ∧ ((I' a0 9).toInt = 5) ∧ ((I' a0 13).toInt = 5) ∧ ((I' a0 14).toInt = (tkS gB gs)) ∧ True) ∨ ((x1.toInt ≠ x2.toInt) ∧ ((gQ 0) = 0) ∧ ((I' a0 9).toInt = 5) ∧ ((I' a0 13).toInt = 6) ∧ ((I' a0 14).toInt = (tkS gB gs)) ∧ True)) ∧ True)) := by
  refine ConE.of (by decide +kernel) rfl (Nat.le_of_ble_eq_true rfl) rfl (fun X hX hZ hE => ?_)
  subst hX
  have hS0 : St T cn K N d wik_X12_begins wrk_X12_begins I0 R0 I0 R0 := St.rf0 hW0
  have hL0 : LgS T wlk_X12_begins L0 L0 := LgS.rf0
  obtain ⟨a1, d2⟩ := nn4
  have ta1 : T a1 = 14 := hW0.rsN ta0 rfl d2
  obtain ⟨v3, c4⟩ : ∃ v, I0 a0 9 = v := ⟨_, rfl⟩
  have b5 := iv15_9 hS0.1 ta0 c4
  have p6 := pre0
  rw [c4] at p6
  have p7 := pre1
  rw [c4] at p7
  obtain ⟨v8, c9⟩ : ∃ v, I0 a0 10 = v := ⟨_, rfl⟩
  have b10 := iv15_10 hS0.1 ta0 c9
  have p11 := pre2
  rw [c9] at p11
  obtain ⟨v12, c13⟩ : ∃ v, I0 a0 11 = v := ⟨_, rfl⟩
  have p14 := pre3
  rw [c13] at p14
  obtain ⟨y15, c16⟩ : ∃ v, L0 a0 15 = v := ⟨_, rfl⟩
  have p17 := pre4
  rw [c16] at p17
  obtain ⟨v18, c19⟩ : ∃ v, I0 a0 12 = v := ⟨_, rfl⟩
  have p20 := pre5
  rw [c19] at p20
  obtain ⟨v21, c22⟩ : ∃ v, I0 a0 8 = v := ⟨_, rfl⟩
  have b23 := iv15_8 hS0.1 ta0 c22
  have p24 := pre6
  rw [c22] at p24
  obtain ⟨v25, c26⟩ : ∃ v, I0 a0 7 = v := ⟨_, rfl⟩
  have b27 := iv15_7 hW0 ta0 c26
  have p28 := pre7
  rw [c26] at p28
  obtain ⟨v29, c30⟩ : ∃ v, I0 a1 0 = v := ⟨_, rfl⟩
  have b31 := iv14_0 hW0 ta1 c30
  have p32 := pre8 _ d2
  rw [c30] at p32
  have p33 := pre9
  obtain ⟨v34, c35⟩ : ∃ v, I0 a0 13 = v := ⟨_, rfl⟩
  refine tr_iload_n dX12_begins_0 rfl ?_
  refine tr_iload_n dX12_begins_1 rfl ?_
  refine q_icmp_ne 10 dX12_begins_2 (by decide) (fun h36 => ?_) (fun h36 => ?_)
  · skip
    refine tr_aload_n dX12_begins_10 rfl ?_
    refine tr_getR dX12_begins_11 fl12_188 (kR15 hS0.1 ta0) d2 ?_
    refine q_getI dX12_begins_14 fl12_192 (kR14 hS0.1 ta1) c30 ?_
    refine q_if_ne 26 dX12_begins_17 (by decide) (fun h37 => ?_) (fun h37 => ?_)
    · skip
      refine tr_aload_n dX12_begins_26 rfl ?_
      have p38 := p24 (by exact om_e0d38eff pre9)
      refine q_callVv hE (M' := mX12_goesOn) (as := []) dX12_begins_27 lk12_142 inX12_goesOn seX12_goesOn myX12_goesOn (by decide) ⟨by decide, by decide⟩ rfl (kR15 hS0.1 ta0) (Nat.le_of_ble_eq_true rfl) rfl rfl (by decide) (by decide) (fk_X12_goesOn hS0.1 (gB) ((tkN gB gs)) ta0 (TxA.kp hT hS0 ta0 rfl rfl rfl (by decide +kernel) (by decide +kernel)) (by (try rw [c22]); first | done | with_reducible assumption | omega) (by (try rw [c26]); first | done | with_reducible assumption | omega) (by (try rw [c4]); first | done | with_reducible assumption | exact om_df98ac7c pre0 pre1 b5.2 b5.1 p6)) ?_
      rintro cn' K' N' I39 R40 L41 ⟨rfl, rfl, rfl, rfl, g42, gl43, p45, p46, p47, p48, p49, p50, p51, -⟩
      have hS52 := hS0.tr g42 (by decide +kernel) (by decide +kernel)
      have c53 : I39 a0 13 = v34 := (g42.cell ta0 (by decide +kernel)).trans c35
      have hL54 := hL0.tr gl43 (by decide +kernel)
      obtain ⟨v55, c56⟩ : ∃ v, I39 a0 9 = v := ⟨_, rfl⟩
      have b57 := iv15_9 hS52.1 ta0 c56
      rw [c56] at p45
      rw [c56] at p46
      obtain ⟨v58, c59⟩ : ∃ v, I39 a0 10 = v := ⟨_, rfl⟩
      have b60 := iv15_10 hS52.1 ta0 c59
      rw [c59] at p47
      obtain ⟨v61, c62⟩ : ∃ v, I39 a0 11 = v := ⟨_, rfl⟩
      rw [c62] at p48
      obtain ⟨y63, c64⟩ : ∃ v, L41 a0 15 = v := ⟨_, rfl⟩
      rw [c64] at p49
      obtain ⟨v65, c66⟩ : ∃ v, I39 a0 12 = v := ⟨_, rfl⟩
      rw [c66] at p50
      obtain ⟨v67, c68⟩ : ∃ v, I39 a0 8 = v := ⟨_, rfl⟩
      have b69 := iv15_8 hS52.1 ta0 c68
      rw [c68] at p51
      obtain ⟨v70, c71⟩ : ∃ v, I39 a0 14 = v := ⟨_, rfl⟩
      exact tr_vret hZ dX12_begins_30 rfl (by decide) (by decide) ⟨rfl, rfl, rfl, rfl, rfl, hS52, (Or.inl ⟨(by first | done | with_reducible assumption | omega), (by first | done | with_reducible assumption | exact om_7898dbf8 p32 h37), (by (try rw [c53]); (try rw [c35]); first | done | with_reducible assumption | omega), (by (try rw [c56]); first | done | with_reducible assumption | omega), (by (try rw [c56]); first | done | with_reducible assumption | omega), (by (try rw [c59]); first | done | with_reducible assumption | omega), (by (try rw [c62]); first | done | with_reducible assumption | omega), (by (try rw [c64]); first | done | assumption), (by (try rw [c66]); first | done | assumption), (by (try rw [c68]); first | done | assumption), hL54, trivial⟩), trivial⟩
    · skip
      refine tr_aload_n dX12_begins_20 rfl ?_
      refine q_bipush dX12_begins_21 (by decide +kernel) ?_
      intro v72 h73
      refine q_callVv hE (M' := mX12_flaw) (as := [_]) dX12_begins_23 lk12_145 inX12_flaw seX12_flaw myX12_flaw (by decide) ⟨by decide, by decide⟩ rfl (kR15 hS0.1 ta0) (Nat.le_of_ble_eq_true rfl) rfl rfl (by decide) (by decide) (fk_X12_flaw hS0.1  ta0 (by exact om_54a92a42 h73) (by (try rw [c4]); first | done | with_reducible assumption | exact om_df98ac7c pre0 pre1 b5.2 b5.1 p6)) ?_
      rintro cn' K' N' I74 R75 L76 ⟨rfl, rfl, rfl, rfl, rfl, g77, p80, p81, p82, -⟩
      have hS83 := hS0.tr g77 (by decide +kernel) (by decide +kernel)
      have c84 : I74 a0 10 = v8 := (g77.cell ta0 (by decide +kernel)).trans c9
      have c85 : I74 a0 11 = v12 := (g77.cell ta0 (by decide +kernel)).trans c13
      have c86 : I74 a0 12 = v18 := (g77.cell ta0 (by decide +kernel)).trans c19
      have c87 : I74 a0 8 = v21 := (g77.cell ta0 (by decide +kernel)).trans c22
      obtain ⟨v88, c89⟩ : ∃ v, I74 a0 9 = v := ⟨_, rfl⟩
      have b90 := iv15_9 hS83.1 ta0 c89
      rw [c89] at p80
      obtain ⟨v91, c92⟩ : ∃ v, I74 a0 13 = v := ⟨_, rfl⟩
      rw [c92] at p81
      obtain ⟨v93, c94⟩ : ∃ v, I74 a0 14 = v := ⟨_, rfl⟩
      rw [c94] at p82
      rw [c9] at p82
      refine tr_aload_n dX12_begins_26 rfl ?_
      refine q_callVv hE (M' := mX12_goesOn) (as := []) dX12_begins_27 lk12_142 inX12_goesOn seX12_goesOn myX12_goesOn (by decide) ⟨by decide, by decide⟩ rfl (kR15 hS83.1 ta0) (Nat.le_of_ble_eq_true rfl) rfl rfl (by decide) (by decide) (k_X12_goesOn hS83.1 ta0) ?_
      rintro cn' K' N' I95 R96 L97 ⟨rfl, rfl, rfl, rfl, g98, p100, p101, p102, w103, -⟩
      have hS104 := hS83.tr g98 (by decide +kernel) (by decide +kernel)
      have c105 : I95 a0 13 = v91 := (g98.cell ta0 (by decide +kernel)).trans c92
      have c106 : I95 a0 14 = v93 := (g98.cell ta0 (by decide +kernel)).trans c94
      obtain ⟨v107, c108⟩ : ∃ v, I95 a0 9 = v := ⟨_, rfl⟩
      have b109 := iv15_9 hS104.1 ta0 c108
      rw [c89] at p100
      rw [c108] at p100
      rw [c89] at p101
      rw [c108] at p101
      obtain ⟨v110, c111⟩ : ∃ v, I95 a0 8 = v := ⟨_, rfl⟩
      have b112 := iv15_8 hS104.1 ta0 c111
      rw [c111] at p102
      rw [c87] at p102
      rw [c105] at p102
      rw [c92] at p102
      have ov113 := w103.over (by rw [c89]; exact om_394b70a2 p80)
      obtain ⟨v114, c115⟩ : ∃ v, I95 a0 9 = v := ⟨_, rfl⟩
      have b116 := iv15_9 hS104.1 ta0 c115
      obtain ⟨v117, c118⟩ : ∃ v, I95 a0 13 = v := ⟨_, rfl⟩
      obtain ⟨v119, c120⟩ : ∃ v, I95 a0 14 = v := ⟨_, rfl⟩
      (try rw [c115] at ov113)
      (try rw [c118] at ov113)
      (try rw [c120] at ov113)
      (try rw [c89] at ov113)
      (try rw [c92] at ov113)
      (try rw [c94] at ov113)
      obtain ⟨v121, c122⟩ : ∃ v, I95 a0 10 = v := ⟨_, rfl⟩
      have b123 := iv15_10 hS104.1 ta0 c122
      obtain ⟨v124, c125⟩ : ∃ v, I95 a0 11 = v := ⟨_, rfl⟩
      obtain ⟨y126, c127⟩ : ∃ v, L97 a0 15 = v := ⟨_, rfl⟩
      obtain ⟨v128, c129⟩ : ∃ v, I95 a0 12 = v := ⟨_, rfl⟩
      exact tr_vret hZ dX12_begins_30 rfl (by decide) (by decide) ⟨rfl, rfl, rfl, rfl, rfl, hS104, (Or.inr (Or.inr (⟨(by first | done | with_reducible assumption | omega), (by first | done | with_reducible assumption | exact om_146e4dfc p32 h37), (by (try rw [c115]); first | done | with_reducible assumption | exact om_394b70a2 ov113.1), (by (try rw [c118]); first | done | with_reducible assumption | exact om_e566ed32 h73 p81 ov113.2.1), (by (try rw [c120]); first | done | with_reducible assumption | exact om_1c22ab7e p11 p82 ov113.2.2), trivial⟩))), trivial⟩
  · skip
    refine tr_aload_n dX12_begins_5 rfl ?_
    refine q_iconst dX12_begins_6 (by decide) ?_
    intro v130 h131
    refine q_callVv hE (M' := mX12_flaw) (as := [_]) dX12_begins_7 lk12_145 inX12_flaw seX12_flaw myX12_flaw (by decide) ⟨by decide, by decide⟩ rfl (kR15 hS0.1 ta0) (Nat.le_of_ble_eq_true rfl) rfl rfl (by decide) (by decide) (fk_X12_flaw hS0.1  ta0 (by exact om_054a361c h131) (by (try rw [c4]); first | done | with_reducible assumption | exact om_df98ac7c pre0 pre1 b5.2 b5.1 p6)) ?_
    rintro cn' K' N' I132 R133 L134 ⟨rfl, rfl, rfl, rfl, rfl, g135, p138, p139, p140, -⟩
    have hS141 := hS0.tr g135 (by decide +kernel) (by decide +kernel)
    have c142 : I132 a0 10 = v8 := (g135.cell ta0 (by decide +kernel)).trans c9
    have c143 : I132 a0 11 = v12 := (g135.cell ta0 (by decide +kernel)).trans c13
    have c144 : I132 a0 12 = v18 := (g135.cell ta0 (by decide +kernel)).trans c19
    have c145 : I132 a0 8 = v21 := (g135.cell ta0 (by decide +kernel)).trans c22
    obtain ⟨v146, c147⟩ : ∃ v, I132 a0 9 = v := ⟨_, rfl⟩
    have b148 := iv15_9 hS141.1 ta0 c147
    rw [c147] at p138
    obtain ⟨v149, c150⟩ : ∃ v, I132 a0 13 = v := ⟨_, rfl⟩
    rw [c150] at p139
    obtain ⟨v151, c152⟩ : ∃ v, I132 a0 14 = v := ⟨_, rfl⟩
    rw [c152] at p140
    rw [c9] at p140
    refine tr_aload_n dX12_begins_10 rfl ?_
    refine tr_getR dX12_begins_11 fl12_188 (kR15 hS141.1 ta0) d2 ?_
    refine q_getI dX12_begins_14 fl12_192 (kR14 hS141.1 ta1) ((hS141.cell ta1 (by decide +kernel)).trans c30) ?_
    refine q_if_ne 26 dX12_begins_17 (by decide) (fun h153 => ?_) (fun h153 => ?_)
    · skip
      refine tr_aload_n dX12_begins_26 rfl ?_
      refine q_callVv hE (M' := mX12_goesOn) (as := []) dX12_begins_27 lk12_142 inX12_goesOn seX12_goesOn myX12_goesOn (by decide) ⟨by decide, by decide⟩ rfl (kR15 hS141.1 ta0) (Nat.le_of_ble_eq_true rfl) rfl rfl (by decide) (by decide) (k_X12_goesOn hS141.1 ta0) ?_
      rintro cn' K' N' I154 R155 L156 ⟨rfl, rfl, rfl, rfl, g157, p159, p160, p161, w162, -⟩
      have hS163 := hS141.tr g157 (by decide +kernel) (by decide +kernel)
      have c164 : I154 a0 13 = v149 := (g157.cell ta0 (by decide +kernel)).trans c150
      have c165 : I154 a0 14 = v151 := (g157.cell ta0 (by decide +kernel)).trans c152
      obtain ⟨v166, c167⟩ : ∃ v, I154 a0 9 = v := ⟨_, rfl⟩
      have b168 := iv15_9 hS163.1 ta0 c167
      rw [c147] at p159
      rw [c167] at p159
      rw [c147] at p160
      rw [c167] at p160
      obtain ⟨v169, c170⟩ : ∃ v, I154 a0 8 = v := ⟨_, rfl⟩
      have b171 := iv15_8 hS163.1 ta0 c170
      rw [c170] at p161
      rw [c145] at p161
      rw [c164] at p161
      rw [c150] at p161
      have ov172 := w162.over (by rw [c147]; exact om_394b70a2 p138)
      obtain ⟨v173, c174⟩ : ∃ v, I154 a0 9 = v := ⟨_, rfl⟩
      have b175 := iv15_9 hS163.1 ta0 c174
      obtain ⟨v176, c177⟩ : ∃ v, I154 a0 13 = v := ⟨_, rfl⟩
      obtain ⟨v178, c179⟩ : ∃ v, I154 a0 14 = v := ⟨_, rfl⟩
      (try rw [c174] at ov172)
      (try rw [c177] at ov172)
      (try rw [c179] at ov172)
      (try rw [c147] at ov172)
      (try rw [c150] at ov172)
      (try rw [c152] at ov172)
      obtain ⟨v180, c181⟩ : ∃ v, I154 a0 10 = v := ⟨_, rfl⟩
      have b182 := iv15_10 hS163.1 ta0 c181
      obtain ⟨v183, c184⟩ : ∃ v, I154 a0 11 = v := ⟨_, rfl⟩
      obtain ⟨y185, c186⟩ : ∃ v, L156 a0 15 = v := ⟨_, rfl⟩
      obtain ⟨v187, c188⟩ : ∃ v, I154 a0 12 = v := ⟨_, rfl⟩
      exact tr_vret hZ dX12_begins_30 rfl (by decide) (by decide) ⟨rfl, rfl, rfl, rfl, rfl, hS163, (Or.inr (Or.inl ⟨(by first | done | with_reducible assumption | omega), (by (try rw [c174]); first | done | with_reducible assumption | exact om_394b70a2 ov172.1), (by (try rw [c177]); first | done | with_reducible assumption | exact om_40463829 h131 p139 ov172.2.1), (by (try rw [c179]); first | done | with_reducible assumption | exact om_1c22ab7e p11 p140 ov172.2.2), trivial⟩)), trivial⟩
    · skip
      refine tr_aload_n dX12_begins_20 rfl ?_
      refine q_bipush dX12_begins_21 (by decide +kernel) ?_
      intro v189 h190
      refine q_callVv hE (M' := mX12_flaw) (as := [_]) dX12_begins_23 lk12_145 inX12_flaw seX12_flaw myX12_flaw (by decide) ⟨by decide, by decide⟩ rfl (kR15 hS141.1 ta0) (Nat.le_of_ble_eq_true rfl) rfl rfl (by decide) (by decide) (k_X12_flaw hS141.1 ta0 (by exact om_54a92a42 h190)) ?_
      rintro cn' K' N' I191 R192 L193 ⟨rfl, rfl, rfl, rfl, rfl, g194, p196, p197, w198, -⟩
      have hS199 := hS141.tr g194 (by decide +kernel) (by decide +kernel)
      have c200 : I191 a0 10 = v8 := (g194.cell ta0 (by decide +kernel)).trans c142
      have c201 : I191 a0 11 = v12 := (g194.cell ta0 (by decide +kernel)).trans c143
      have c202 : I191 a0 12 = v18 := (g194.cell ta0 (by decide +kernel)).trans c144
      have c203 : I191 a0 8 = v21 := (g194.cell ta0 (by decide +kernel)).trans c145
      obtain ⟨v204, c205⟩ : ∃ v, I191 a0 9 = v := ⟨_, rfl⟩
      have b206 := iv15_9 hS199.1 ta0 c205
      rw [c205] at p196
      rw [c203] at p197
      rw [c145] at p197
      have ov207 := w198.over (by rw [c147]; exact om_394b70a2 p138)
      obtain ⟨v208, c209⟩ : ∃ v, I191 a0 9 = v := ⟨_, rfl⟩
      have b210 := iv15_9 hS199.1 ta0 c209
      obtain ⟨v211, c212⟩ : ∃ v, I191 a0 13 = v := ⟨_, rfl⟩
      obtain ⟨v213, c214⟩ : ∃ v, I191 a0 14 = v := ⟨_, rfl⟩
      (try rw [c209] at ov207)
      (try rw [c212] at ov207)
      (try rw [c214] at ov207)
      (try rw [c147] at ov207)
      (try rw [c150] at ov207)
      (try rw [c152] at ov207)
      refine tr_aload_n dX12_begins_26 rfl ?_
      refine q_callVv hE (M' := mX12_goesOn) (as := []) dX12_begins_27 lk12_142 inX12_goesOn seX12_goesOn myX12_goesOn (by decide) ⟨by decide, by decide⟩ rfl (kR15 hS199.1 ta0) (Nat.le_of_ble_eq_true rfl) rfl rfl (by decide) (by decide) (k_X12_goesOn hS199.1 ta0) ?_
      rintro cn' K' N' I215 R216 L217 ⟨rfl, rfl, rfl, rfl, g218, p220, p221, p222, w223, -⟩
      have hS224 := hS199.tr g218 (by decide +kernel) (by decide +kernel)
      have c225 : I215 a0 13 = v211 := (g218.cell ta0 (by decide +kernel)).trans c212
      have c226 : I215 a0 14 = v213 := (g218.cell ta0 (by decide +kernel)).trans c214
      obtain ⟨v227, c228⟩ : ∃ v, I215 a0 9 = v := ⟨_, rfl⟩
      have b229 := iv15_9 hS224.1 ta0 c228
      rw [c209] at p220
      rw [c228] at p220
      rw [c209] at p221
      rw [c228] at p221
      obtain ⟨v230, c231⟩ : ∃ v, I215 a0 8 = v := ⟨_, rfl⟩
      have b232 := iv15_8 hS224.1 ta0 c231
      rw [c231] at p222
      rw [c203] at p222
      rw [c225] at p222
      rw [c212] at p222
      have ov233 := w223.over (by rw [c209]; exact om_394b70a2 ov207.1)
      obtain ⟨v234, c235⟩ : ∃ v, I215 a0 9 = v := ⟨_, rfl⟩
      have b236 := iv15_9 hS224.1 ta0 c235
      obtain ⟨v237, c238⟩ : ∃ v, I215 a0 13 = v := ⟨_, rfl⟩
      obtain ⟨v239, c240⟩ : ∃ v, I215 a0 14 = v := ⟨_, rfl⟩
      (try rw [c235] at ov233)
      (try rw [c238] at ov233)
      (try rw [c240] at ov233)
      (try rw [c209] at ov233)
      (try rw [c212] at ov233)
      (try rw [c214] at ov233)
      obtain ⟨v241, c242⟩ : ∃ v, I215 a0 10 = v := ⟨_, rfl⟩
      have b243 := iv15_10 hS224.1 ta0 c242
      obtain ⟨v244, c245⟩ : ∃ v, I215 a0 11 = v := ⟨_, rfl⟩
      obtain ⟨y246, c247⟩ : ∃ v, L217 a0 15 = v := ⟨_, rfl⟩
      obtain ⟨v248, c249⟩ : ∃ v, I215 a0 12 = v := ⟨_, rfl⟩
      exact tr_vret hZ dX12_begins_30 rfl (by decide) (by decide) ⟨rfl, rfl, rfl, rfl, rfl, hS224, (Or.inr (Or.inl ⟨(by first | done | with_reducible assumption | omega), (by (try rw [c235]); first | done | with_reducible assumption | exact om_394b70a2 ov233.1), (by (try rw [c238]); first | done | with_reducible assumption | exact om_2d744fa3 h131 p139 ov207.2.1 ov233.2.1), (by (try rw [c240]); first | done | with_reducible assumption | exact om_751d021b p11 p140 ov207.2.2 ov233.2.2), trivial⟩)), trivial⟩
