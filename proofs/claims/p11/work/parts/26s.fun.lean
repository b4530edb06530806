set_option maxHeartbeats 4000000 in
theorem fk_X11_find {l : Launch} {T : Nat → Nat} {cn : Nat} {K N : Nat → Nat} {I0 : cz_I} {R0 : cz_R} {L0 : cz_L} {d : Int} (hW0 : Wf T cn K N I0 R0 d) (gw : Int) {a0 : Nat} (ta0 : T a0 = 14) {y1 : Int64} (pre0 : y1.toInt = (gw)) : ConE l mX11_find [.ref a0, .long y1] cn K N I0 R0 L0 (ca_i (fun v cn' K' N' I' R' L' => cn = cn' ∧ K = K' ∧ N = N' ∧ I0 = I' ∧ R0 = R' ∧ L0 = L' ∧ ((-1) ≤ v.toInt ∧ v.toInt ≤ 12) ∧ (FdM L0 R0 a0 (I0 a0 7).toInt gw v) ∧ True)) := by
  refine ConE.of (by decide +kernel) rfl (Nat.le_of_ble_eq_true rfl) rfl (fun X hX hZ hE => ?_)
  subst hX
  have p1 := pre0
  obtain ⟨a2, d3, ta2⟩ := rf14_30 hW0 ta0
  refine q_iconst dX11_find_0 (by decide) ?_
  intro v4 h5
  refine tr_istore_n dX11_find_1 (by decide) (by decide) ?_
  have lp13 : ∀ (fu : Nat) (ls : Nat → Option Value) (v6 : Int32), ls 0 = some (.ref a0) → ls 1 = some (.long y1) → ls 3 = some (.int v6) → 0 ≤ v6.toInt → v6.toInt ≤ 13 → (∀ k : Nat, (k : Int) < v6.toInt → (L0 a2 k).toInt ≠ gw) → (-v6.toInt + 2147483647).toNat < fu → Tr X mX11_find 2 ls [] cn K N I0 R0 L0 0 0 := by
    intro fu
    induction fu with
    | zero => intros; rename_i hz; exact absurd hz (Nat.not_lt_zero _)
    | succ fu ih13 =>
      intro ls v6 hl7 hl8 hl9 g10 g11 rw12 hm13
      refine tr_iload_n dX11_find_2 hl9 ?_
      refine tr_aload_n dX11_find_3 hl7 ?_
      obtain ⟨v15, c16⟩ : ∃ v, I0 a0 7 = v := ⟨_, rfl⟩
      have b17 := iv14_7 hW0 ta0 c16
      refine q_getI dX11_find_4 fl11_83 (kR14 hW0 ta0) c16 ?_
      refine q_icmp_ge 29 dX11_find_7 (by decide) (fun h18 => ?_) (fun h18 => ?_)
      · skip
        refine q_iconst dX11_find_29 (by decide) ?_
        intro v19 h20
        exact tr_iret hZ dX11_find_30 rfl (by decide) (by decide) ⟨v19, rfl, rfl, rfl, rfl, rfl, rfl, rfl, (by exact om_7de6d412 h20), (fun t ht => by obtain rfl := Option.some.inj (d3.symm.trans ht); exact Or.inl ⟨by exact om_dd98535d h20, fun k hk => rw12 k (by rw [c16] at hk; exact om_a60464d4 h18 hk)⟩), trivial⟩
      · skip
        refine tr_aload_n dX11_find_10 hl7 ?_
        refine tr_getR dX11_find_11 fl11_73 (kR14 hW0 ta0) d3 ?_
        refine tr_iload_n dX11_find_14 hl9 ?_
        refine q_laldE dX11_find_15 (kR73 hW0 ta2) (ti_in (nR73 hW0 ta2) (by exact om_2cfcd5a5 g10) (by exact om_5c31c1a3 g10 g11 b17.2 b17.1 h18)) ?_
        intro y21 c22
        refine tr_lload_n dX11_find_16 hl8 ?_
        refine q_lcmpNe 23 dX11_find_17 dX11_find_18 (by decide) (fun h23 => ?_) (fun h23 => ?_)
        · skip
          refine q_iincE dX11_find_23 hl9 (by decide) (by decide) (by intro j1 j2; exact om_49d8d6f2 g10 g11) ?_
          intro v24 h25
          refine tr_goto 2 dX11_find_26 (by decide) ?_
          exact ih13 _ v24 hl7 hl8 rfl (by exact om_3947a534 g10 g11 h25) (by exact om_0cff1aff g10 g11 b17.2 b17.1 h18 h25) (fun k hk => by by_cases q : (k : Int) < v6.toInt; exact rw12 k q; rw [show k = v6.toNatClampNeg by have q := ti_nat (i := v6) (by exact om_2cfcd5a5 g10); omega, c22]; exact om_f91b5c94 pre0 h23) (by exact om_18fc54d4 g10 g11 hm13 h23 h25)
        · skip
          refine tr_iload_n dX11_find_21 hl9 ?_
          exact tr_iret hZ dX11_find_22 rfl (by decide) (by decide) ⟨v6, rfl, rfl, rfl, rfl, rfl, rfl, rfl, (by exact om_a90745e2 g10 g11 b17.2 b17.1 h18), (fun t ht => by obtain rfl := Option.some.inj (d3.symm.trans ht); exact Or.inr ⟨by exact om_2cfcd5a5 g10, by rw [c16]; exact om_b6fabb1f h18, (congrArg Int64.toInt c22).trans (by exact om_9fa72578 pre0 h23)⟩), trivial⟩
  exact lp13 _ _ v4 rfl rfl rfl (by exact om_d99fa9e4 h5) (by exact om_c860a757 h5) (fun k hk => by exact om_8279ceb6 h5 hk) (Nat.lt_succ_self _)
def wik_X12_readFresh : List Nat := [968, 969, 970, 971, 972, 973, 974]
def wrk_X12_readFresh : List Nat := []
def wlk_X12_readFresh : List Nat := [975]
set_option maxHeartbeats 4000000 in
theorem fk_X12_readFresh {l : Launch} {T : Nat → Nat} {cn : Nat} {K N : Nat → Nat} {I0 : cz_I} {R0 : cz_R} {L0 : cz_L} (hW0 : Wf T cn K N I0 R0 0) (gB : cz_B) (gs : Int) (gQ : Nat → Int) {a0 : Nat} (ta0 : T a0 = 15) (hT : ∀ t, R0 a0 5 = some t → Tx I0 t gB) (hN : ∀ b, R0 a0 4 = some b → NmM I0 R0 L0 b gQ) (pre0 : (I0 a0 9).toInt = (tkM gB gs)) (pre1 : (I0 a0 9).toInt ≤ 4) (pre2 : (I0 a0 10).toInt = (tkS gB gs)) (pre3 : (I0 a0 11).toInt = (tkG gB gs)) (pre4 : (AtW ((tkK gB gs)) ((L0 a0 15).toInt) ((tkW gB gs)))) (pre5 : (AtV ((tkK gB gs)) ((I0 a0 12).toInt) ((tkV gB gs)))) (pre6 : (AtN ((tkK gB gs)) ((I0 a0 8).toInt) ((tkN gB gs)))) (pre7 : (I0 a0 7).toInt = (gB.2)) (pre8 : ∀ b1, R0 a0 4 = some b1 → (I0 b1 3).toInt = (gQ 3)) (pre9 : ∀ b1, R0 a0 4 = some b1 → (I0 b1 4).toInt = (gQ 4)) (nn4 : ∃ b, R0 a0 4 = some b) : ConE l mX12_readFresh [.ref a0] cn K N I0 R0 L0 (ca_l (fun v cn' K' N' I' R' L' => cn = cn' ∧ K = K' ∧ N = N' ∧ R0 = R' ∧ St T cn K N 0 wik_X12_readFresh wrk_X12_readFresh I0 R0 I' R0 ∧ (((v.toInt = (tkW gB gs)) ∧ ((isN gB gs) = 1) ∧ ((tkK gB gs) = 1) ∧ ((nmI gQ 100 (gQ 3) (tkW gB gs)) = -1) ∧ ((nmI gQ 200 (gQ 4) (tkW gB gs)) = -1) ∧ ((I' a0 13).toInt = (I0 a0 13).toInt) ∧ ((I' a0 9).toInt = (tkM gB (tkN gB gs))) ∧ ((I' a0 9).toInt ≤ 4) ∧ ((I' a0 10).toInt = (tkS gB (tkN gB gs))) ∧ ((I' a0 11).toInt = (tkG gB (tkN gB gs))) ∧ ((AtW ((tkK gB (tkN gB gs))) ((L' a0 15).toInt) ((tkW gB (tkN gB gs))))) ∧ ((AtV ((tkK gB (tkN gB gs))) ((I' a0 12).toInt) ((tkV gB (tkN gB gs))))) ∧ ((AtN ((tkK gB (tkN gB gs))) ((I' a0 8).toInt) ((tkN gB (tkN gB gs))))) ∧ LgS T wlk_X12_readFresh L0 L' ∧ True) ∨ (((isN gB gs) ≠ 1) ∧ ((I' a0 9).toInt = 5) ∧ ((I' a0 13).toInt = 1) ∧ ((I' a0 14).toInt = (tkS gB gs)) ∧ True) ∨ (((isN gB gs) = 1) ∧ (((nmI gQ 100 (gQ 3) (tkW gB gs)) ≠ -1 ∨ (nmI gQ 200 (gQ 4) (tkW gB gs)) ≠ -1)) ∧ ((I' a0 9).toInt = 5) ∧ ((I' a0 13).toInt = 3) ∧ ((I' a0 14).toInt = (tkS gB gs)) ∧ True)) ∧ True)) := by
  refine ConE.of (by decide +kernel) rfl (Nat.le_of_ble_eq_true rfl) rfl (fun X hX hZ hE => ?_)
  subst hX
  have hS0 : St T cn K N 0 wik_X12_readFresh wrk_X12_readFresh I0 R0 I0 R0 := St.rf0 hW0
  have hL0 : LgS T wlk_X12_readFresh L0 L0 := LgS.rf0
  obtain ⟨a1, d2⟩ := nn4
  have ta1 : T a1 = 14 := hW0.rsN ta0 rfl d2
  obtain ⟨v3, c4⟩ : ∃ v, I0 a0 9 = v := ⟨_, rfl⟩
  have b5 := iv15_9 hS0.1 ta0 c4
  have p6 := pre0
  rw [c4] at p6
  have p7 := pre1
  rw [c4] at p7
  obtain ⟨v8, c9⟩ : ∃ v, I0 a0 10 = v := ⟨_, rfl⟩
  have b10 := iv15_10 hS0.1 ta0 c9
  have p11 := pre2
  rw [c9] at p11
  obtain ⟨v12, c13⟩ : ∃ v, I0 a0 11 = v := ⟨_, rfl⟩
  have p14 := pre3
  rw [c13] at p14
  obtain ⟨y15, c16⟩ : ∃ v, L0 a0 15 = v := ⟨_, rfl⟩
  have p17 := pre4
  rw [c16] at p17
  obtain ⟨v18, c19⟩ : ∃ v, I0 a0 12 = v := ⟨_, rfl⟩
  have p20 := pre5
  rw [c19] at p20
  obtain ⟨v21, c22⟩ : ∃ v, I0 a0 8 = v := ⟨_, rfl⟩
  have b23 := iv15_8 hS0.1 ta0 c22
  have p24 := pre6
  rw [c22] at p24
  obtain ⟨v25, c26⟩ : ∃ v, I0 a0 7 = v := ⟨_, rfl⟩
  have b27 := iv15_7 hW0 ta0 c26
  have p28 := pre7
  rw [c26] at p28
  obtain ⟨v29, c30⟩ : ∃ v, I0 a1 3 = v := ⟨_, rfl⟩
  have b31 := iv14_3 hW0 ta1 c30
  have p32 := pre8 _ d2
  rw [c30] at p32
  obtain ⟨v33, c34⟩ : ∃ v, I0 a1 4 = v := ⟨_, rfl⟩
  have b35 := iv14_4 hW0 ta1 c34
  have p36 := pre9 _ d2
  rw [c34] at p36
  obtain ⟨v37, c38⟩ : ∃ v, I0 a0 13 = v := ⟨_, rfl⟩
  have hM0 := hN _ d2
  refine tr_aload_n dX12_readFresh_0 rfl ?_
  refine q_callVi hE (M' := mX12_isName) (as := []) dX12_readFresh_1 lk12_197 inX12_isName seX12_isName myX12_isName (by decide) ⟨by decide, by decide⟩ rfl (kR15 hS0.1 ta0) (Nat.le_of_ble_eq_true rfl) rfl rfl (by decide) (by decide) (fk_X12_isName hS0.1 (gB) (gs) ta0 (by (try rw [c4]); first | done | with_reducible assumption | omega) (by (try rw [c16]); first | done | assumption)) ?_
  rintro v44 cn' K' N' I39 R40 L41 ⟨rfl, rfl, rfl, rfl, rfl, rfl, h45, dj46, -⟩
  rcases dj46 with ⟨p47, p48, p49, -⟩ | ⟨p50, p51, -⟩
  · skip
    refine q_if_ne 12 dX12_readFresh_4 (by decide) (fun h52 => ?_) (fun h52 => ?_)
    · skip
      refine tr_aload_n dX12_readFresh_12 rfl ?_
      refine tr_getR dX12_readFresh_13 fl12_188 (kR15 hS0.1 ta0) d2 ?_
      refine tr_aload_n dX12_readFresh_16 rfl ?_
      have p53 := p17 (by exact om_ee8a1e2d p49)
      refine q_getLE dX12_readFresh_17 fl12_118 (kR15 hS0.1 ta0) c16 ?_
      refine q_callVi hE (M' := mX11_find) (as := [_]) dX12_readFresh_20 lk12_201 inX11_find seX11_find myX11_find (by decide) ⟨by decide, by decide⟩ rfl (kR14 hS0.1 ta1) (Nat.le_of_ble_eq_true rfl) rfl rfl (by decide) (by decide) (fk_X11_find hS0.1 ((tkW gB gs)) ta1 (by first | done | with_reducible assumption | omega)) ?_
      rintro v59 cn' K' N' I54 R55 L56 ⟨rfl, rfl, rfl, rfl, rfl, rfl, h60, rp61, -⟩
      obtain ⟨v64, c65⟩ : ∃ v, I0 a1 7 = v := ⟨_, rfl⟩
      have b66 := iv14_7 hW0 ta1 c65
      have p63 := hS0.1.2.2.2.2.1 a0 ta0 _ d2
      rw [c65, c30, c34] at p63
      have fd62 := fd_told hM0 hS0.1 ta1 rp61 (by rw [c65]; exact om_0c68f310 p32 p36 p63)
      rw [c65] at fd62
      refine q_iconst dX12_readFresh_23 (by decide) ?_
      intro v67 h68
      refine q_icmp_eq 32 dX12_readFresh_24 (by decide) (fun h69 => ?_) (fun h69 => ?_)
      · skip
        refine tr_aload_n dX12_readFresh_32 rfl ?_
        refine q_getLE dX12_readFresh_33 fl12_118 (kR15 hS0.1 ta0) c16 ?_
        refine tr_lstore_n dX12_readFresh_36 (by decide) (by decide) (by decide) ?_
        refine tr_aload_n dX12_readFresh_37 rfl ?_
        have p70 := p24 (by exact om_e0d38eff p49)
        refine q_callVv hE (M' := mX12_goesOn) (as := []) dX12_readFresh_38 lk12_142 inX12_goesOn seX12_goesOn myX12_goesOn (by decide) ⟨by decide, by decide⟩ rfl (kR15 hS0.1 ta0) (Nat.le_of_ble_eq_true rfl) rfl rfl (by decide) (by decide) (fk_X12_goesOn hS0.1 (gB) ((tkN gB gs)) ta0 (TxA.kp hT hS0 ta0 rfl rfl rfl (by decide +kernel) (by decide +kernel)) (by (try rw [c22]); first | done | with_reducible assumption | omega) (by (try rw [c26]); first | done | with_reducible assumption | omega) (by (try rw [c4]); first | done | with_reducible assumption | exact om_df98ac7c pre0 pre1 b5.2 b5.1 p6)) ?_
        rintro cn' K' N' I71 R72 L73 ⟨rfl, rfl, rfl, rfl, g74, gl75, p77, p78, p79, p80, p81, p82, p83, -⟩
        have hM84 : NmM I71 R0 L0 a1 gQ := NmM.kpS hM0 g74 hS0.1 ta1 (by decide +kernel) (by decide +kernel)
        have hS85 := hS0.tr g74 (by decide +kernel) (by decide +kernel)
        have c86 : I71 a0 13 = v37 := (g74.cell ta0 (by decide +kernel)).trans c38
        have hL87 := hL0.tr gl75 (by decide +kernel)
        have hM88 : NmM I71 R0 L73 a1 gQ := NmM.kpL hM84 gl75 hS85.1 ta1 (by decide +kernel)
        obtain ⟨v89, c90⟩ : ∃ v, I71 a0 9 = v := ⟨_, rfl⟩
        have b91 := iv15_9 hS85.1 ta0 c90
        rw [c90] at p77
        rw [c90] at p78
        obtain ⟨v92, c93⟩ : ∃ v, I71 a0 10 = v := ⟨_, rfl⟩
        have b94 := iv15_10 hS85.1 ta0 c93
        rw [c93] at p79
        obtain ⟨v95, c96⟩ : ∃ v, I71 a0 11 = v := ⟨_, rfl⟩
        rw [c96] at p80
        obtain ⟨y97, c98⟩ : ∃ v, L73 a0 15 = v := ⟨_, rfl⟩
        rw [c98] at p81
        obtain ⟨v99, c100⟩ : ∃ v, I71 a0 12 = v := ⟨_, rfl⟩
        rw [c100] at p82
        obtain ⟨v101, c102⟩ : ∃ v, I71 a0 8 = v := ⟨_, rfl⟩
        have b103 := iv15_8 hS85.1 ta0 c102
        rw [c102] at p83
        refine tr_lload_n dX12_readFresh_41 rfl ?_
        obtain ⟨v104, c105⟩ : ∃ v, I71 a0 14 = v := ⟨_, rfl⟩
        exact tr_lret hZ dX12_readFresh_42 rfl (by decide) (by decide) ⟨y15, rfl, rfl, rfl, rfl, rfl, hS85, (Or.inl ⟨(by first | done | with_reducible assumption | omega), (by first | done | with_reducible assumption | omega), (by first | done | with_reducible assumption | omega), (by first | done | with_reducible assumption | exact om_8398925b fd62 h68 h69), (by first | done | with_reducible assumption | exact om_500a6f2f fd62 h68 h69), (by (try rw [c86]); (try rw [c38]); first | done | with_reducible assumption | omega), (by (try rw [c90]); first | done | with_reducible assumption | omega), (by (try rw [c90]); first | done | with_reducible assumption | omega), (by (try rw [c93]); first | done | with_reducible assumption | omega), (by (try rw [c96]); first | done | with_reducible assumption | omega), (by (try rw [c98]); first | done | assumption), (by (try rw [c100]); first | done | assumption), (by (try rw [c102]); first | done | assumption), hL87, trivial⟩), trivial⟩
      · skip
        refine tr_aload_n dX12_readFresh_27 rfl ?_
        refine q_iconst dX12_readFresh_28 (by decide) ?_
        intro v106 h107
        refine q_callVv hE (M' := mX12_flaw) (as := [_]) dX12_readFresh_29 lk12_145 inX12_flaw seX12_flaw myX12_flaw (by decide) ⟨by decide, by decide⟩ rfl (kR15 hS0.1 ta0) (Nat.le_of_ble_eq_true rfl) rfl rfl (by decide) (by decide) (fk_X12_flaw hS0.1  ta0 (by exact om_7e011daf h107) (by (try rw [c4]); first | done | with_reducible assumption | exact om_df98ac7c pre0 pre1 b5.2 b5.1 p6)) ?_
        rintro cn' K' N' I108 R109 L110 ⟨rfl, rfl, rfl, rfl, rfl, g111, p114, p115, p116, -⟩
        have hM117 : NmM I108 R0 L0 a1 gQ := NmM.kpS hM0 g111 hS0.1 ta1 (by decide +kernel) (by decide +kernel)
        have hS118 := hS0.tr g111 (by decide +kernel) (by decide +kernel)
        have c119 : I108 a0 10 = v8 := (g111.cell ta0 (by decide +kernel)).trans c9
        have c120 : I108 a0 11 = v12 := (g111.cell ta0 (by decide +kernel)).trans c13
        have c121 : I108 a0 12 = v18 := (g111.cell ta0 (by decide +kernel)).trans c19
        have c122 : I108 a0 8 = v21 := (g111.cell ta0 (by decide +kernel)).trans c22
        obtain ⟨v123, c124⟩ : ∃ v, I108 a0 9 = v := ⟨_, rfl⟩
        have b125 := iv15_9 hS118.1 ta0 c124
        rw [c124] at p114
        obtain ⟨v126, c127⟩ : ∃ v, I108 a0 13 = v := ⟨_, rfl⟩
        rw [c127] at p115
        obtain ⟨v128, c129⟩ : ∃ v, I108 a0 14 = v := ⟨_, rfl⟩
        rw [c129] at p116
        rw [c9] at p116
        refine tr_aload_n dX12_readFresh_32 rfl ?_
        refine q_getLE dX12_readFresh_33 fl12_118 (kR15 hS118.1 ta0) c16 ?_
        refine tr_lstore_n dX12_readFresh_36 (by decide) (by decide) (by decide) ?_
        refine tr_aload_n dX12_readFresh_37 rfl ?_
        refine q_callVv hE (M' := mX12_goesOn) (as := []) dX12_readFresh_38 lk12_142 inX12_goesOn seX12_goesOn myX12_goesOn (by decide) ⟨by decide, by decide⟩ rfl (kR15 hS118.1 ta0) (Nat.le_of_ble_eq_true rfl) rfl rfl (by decide) (by decide) (k_X12_goesOn hS118.1 ta0) ?_
        rintro cn' K' N' I130 R131 L132 ⟨rfl, rfl, rfl, rfl, g133, p135, p136, p137, w138, -⟩
        have hS139 := hS118.tr g133 (by decide +kernel) (by decide +kernel)
        have c140 : I130 a0 13 = v126 := (g133.cell ta0 (by decide +kernel)).trans c127
        have c141 : I130 a0 14 = v128 := (g133.cell ta0 (by decide +kernel)).trans c129
        obtain ⟨v142, c143⟩ : ∃ v, I130 a0 9 = v := ⟨_, rfl⟩
        have b144 := iv15_9 hS139.1 ta0 c143
        rw [c124] at p135
        rw [c143] at p135
        rw [c124] at p136
        rw [c143] at p136
        obtain ⟨v145, c146⟩ : ∃ v, I130 a0 8 = v := ⟨_, rfl⟩
        have b147 := iv15_8 hS139.1 ta0 c146
        rw [c146] at p137
        rw [c122] at p137
        rw [c140] at p137
        rw [c127] at p137
        have ov148 := w138.over (by rw [c124]; exact om_394b70a2 p114)
        obtain ⟨v149, c150⟩ : ∃ v, I130 a0 9 = v := ⟨_, rfl⟩
        have b151 := iv15_9 hS139.1 ta0 c150
        obtain ⟨v152, c153⟩ : ∃ v, I130 a0 13 = v := ⟨_, rfl⟩
        obtain ⟨v154, c155⟩ : ∃ v, I130 a0 14 = v := ⟨_, rfl⟩
        (try rw [c150] at ov148)
        (try rw [c153] at ov148)
        (try rw [c155] at ov148)
        (try rw [c124] at ov148)
        (try rw [c127] at ov148)
        (try rw [c129] at ov148)
        refine tr_lload_n dX12_readFresh_41 rfl ?_
        obtain ⟨v156, c157⟩ : ∃ v, I130 a0 10 = v := ⟨_, rfl⟩
        have b158 := iv15_10 hS139.1 ta0 c157
        obtain ⟨v159, c160⟩ : ∃ v, I130 a0 11 = v := ⟨_, rfl⟩
        obtain ⟨y161, c162⟩ : ∃ v, L132 a0 15 = v := ⟨_, rfl⟩
        obtain ⟨v163, c164⟩ : ∃ v, I130 a0 12 = v := ⟨_, rfl⟩
        exact tr_lret hZ dX12_readFresh_42 rfl (by decide) (by decide) ⟨y15, rfl, rfl, rfl, rfl, rfl, hS139, (Or.inr (Or.inr (⟨(by first | done | with_reducible assumption | omega), (by first | done | with_reducible assumption | exact om_93d21047 h60.2 h60.1 fd62 h68 h69 p114 p136 p135 b144.2 b144.1), (by (try rw [c150]); first | done | with_reducible assumption | exact om_394b70a2 ov148.1), (by (try rw [c153]); first | done | with_reducible assumption | exact om_c5e63cc3 h107 p115 ov148.2.1), (by (try rw [c155]); first | done | with_reducible assumption | exact om_1c22ab7e p11 p116 ov148.2.2), trivial⟩))), trivial⟩
    · skip
      exfalso; exact om_3624102b p47 h52
  · skip
    refine q_if_ne 12 dX12_readFresh_4 (by decide) (fun h165 => ?_) (fun h165 => ?_)
    · skip
      exfalso; exact om_3a97d4a5 p50 h165
    · skip
      refine tr_aload_n dX12_readFresh_7 rfl ?_
      refine q_iconst dX12_readFresh_8 (by decide) ?_
      intro v166 h167
      refine q_callVv hE (M' := mX12_flaw) (as := [_]) dX12_readFresh_9 lk12_145 inX12_flaw seX12_flaw myX12_flaw (by decide) ⟨by decide, by decide⟩ rfl (kR15 hS0.1 ta0) (Nat.le_of_ble_eq_true rfl) rfl rfl (by decide) (by decide) (fk_X12_flaw hS0.1  ta0 (by exact om_95922198 h167) (by (try rw [c4]); first | done | with_reducible assumption | exact om_df98ac7c pre0 pre1 b5.2 b5.1 p6)) ?_
      rintro cn' K' N' I168 R169 L170 ⟨rfl, rfl, rfl, rfl, rfl, g171, p174, p175, p176, -⟩
      have hM177 : NmM I168 R0 L0 a1 gQ := NmM.kpS hM0 g171 hS0.1 ta1 (by decide +kernel) (by decide +kernel)
      have hS178 := hS0.tr g171 (by decide +kernel) (by decide +kernel)
      have c179 : I168 a0 10 = v8 := (g171.cell ta0 (by decide +kernel)).trans c9
      have c180 : I168 a0 11 = v12 := (g171.cell ta0 (by decide +kernel)).trans c13
      have c181 : I168 a0 12 = v18 := (g171.cell ta0 (by decide +kernel)).trans c19
      have c182 : I168 a0 8 = v21 := (g171.cell ta0 (by decide +kernel)).trans c22
      obtain ⟨v183, c184⟩ : ∃ v, I168 a0 9 = v := ⟨_, rfl⟩
      have b185 := iv15_9 hS178.1 ta0 c184
      rw [c184] at p174
      obtain ⟨v186, c187⟩ : ∃ v, I168 a0 13 = v := ⟨_, rfl⟩
      rw [c187] at p175
      obtain ⟨v188, c189⟩ : ∃ v, I168 a0 14 = v := ⟨_, rfl⟩
      rw [c189] at p176
      rw [c9] at p176
      refine tr_aload_n dX12_readFresh_12 rfl ?_
      refine tr_getR dX12_readFresh_13 fl12_188 (kR15 hS178.1 ta0) d2 ?_
      refine tr_aload_n dX12_readFresh_16 rfl ?_
      refine q_getLE dX12_readFresh_17 fl12_118 (kR15 hS178.1 ta0) c16 ?_
      refine q_callVi hE (M' := mX11_find) (as := [_]) dX12_readFresh_20 lk12_201 inX11_find seX11_find myX11_find (by decide) ⟨by decide, by decide⟩ rfl (kR14 hS178.1 ta1) (Nat.le_of_ble_eq_true rfl) rfl rfl (by decide) (by decide) (k_X11_find hS178.1 ta1) ?_
      rintro v194 cn' K' N' I190 R191 L192 ⟨rfl, rfl, rfl, rfl, rfl, rfl, h195, -⟩
      refine q_iconst dX12_readFresh_23 (by decide) ?_
      intro v196 h197
      refine q_icmp_eq 32 dX12_readFresh_24 (by decide) (fun h198 => ?_) (fun h198 => ?_)
      · skip
        refine tr_aload_n dX12_readFresh_32 rfl ?_
        refine q_getLE dX12_readFresh_33 fl12_118 (kR15 hS178.1 ta0) c16 ?_
        refine tr_lstore_n dX12_readFresh_36 (by decide) (by decide) (by decide) ?_
        refine tr_aload_n dX12_readFresh_37 rfl ?_
        refine q_callVv hE (M' := mX12_goesOn) (as := []) dX12_readFresh_38 lk12_142 inX12_goesOn seX12_goesOn myX12_goesOn (by decide) ⟨by decide, by decide⟩ rfl (kR15 hS178.1 ta0) (Nat.le_of_ble_eq_true rfl) rfl rfl (by decide) (by decide) (k_X12_goesOn hS178.1 ta0) ?_
        rintro cn' K' N' I199 R200 L201 ⟨rfl, rfl, rfl, rfl, g202, p204, p205, p206, w207, -⟩
        have hS208 := hS178.tr g202 (by decide +kernel) (by decide +kernel)
        have c209 : I199 a0 13 = v186 := (g202.cell ta0 (by decide +kernel)).trans c187
        have c210 : I199 a0 14 = v188 := (g202.cell ta0 (by decide +kernel)).trans c189
        obtain ⟨v211, c212⟩ : ∃ v, I199 a0 9 = v := ⟨_, rfl⟩
        have b213 := iv15_9 hS208.1 ta0 c212
        rw [c184] at p204
        rw [c212] at p204
        rw [c184] at p205
        rw [c212] at p205
        obtain ⟨v214, c215⟩ : ∃ v, I199 a0 8 = v := ⟨_, rfl⟩
        have b216 := iv15_8 hS208.1 ta0 c215
        rw [c215] at p206
        rw [c182] at p206
        rw [c209] at p206
        rw [c187] at p206
        have ov217 := w207.over (by rw [c184]; exact om_394b70a2 p174)
        obtain ⟨v218, c219⟩ : ∃ v, I199 a0 9 = v := ⟨_, rfl⟩
        have b220 := iv15_9 hS208.1 ta0 c219
        obtain ⟨v221, c222⟩ : ∃ v, I199 a0 13 = v := ⟨_, rfl⟩
        obtain ⟨v223, c224⟩ : ∃ v, I199 a0 14 = v := ⟨_, rfl⟩
        (try rw [c219] at ov217)
        (try rw [c222] at ov217)
        (try rw [c224] at ov217)
        (try rw [c184] at ov217)
        (try rw [c187] at ov217)
        (try rw [c189] at ov217)
        refine tr_lload_n dX12_readFresh_41 rfl ?_
        obtain ⟨v225, c226⟩ : ∃ v, I199 a0 10 = v := ⟨_, rfl⟩
        have b227 := iv15_10 hS208.1 ta0 c226
        obtain ⟨v228, c229⟩ : ∃ v, I199 a0 11 = v := ⟨_, rfl⟩
        obtain ⟨y230, c231⟩ : ∃ v, L201 a0 15 = v := ⟨_, rfl⟩
        obtain ⟨v232, c233⟩ : ∃ v, I199 a0 12 = v := ⟨_, rfl⟩
        exact tr_lret hZ dX12_readFresh_42 rfl (by decide) (by decide) ⟨y15, rfl, rfl, rfl, rfl, rfl, hS208, (Or.inr (Or.inl ⟨(by first | done | with_reducible assumption | omega), (by (try rw [c219]); first | done | with_reducible assumption | exact om_394b70a2 ov217.1), (by (try rw [c222]); first | done | with_reducible assumption | exact om_148142d1 h167 p175 ov217.2.1), (by (try rw [c224]); first | done | with_reducible assumption | exact om_1c22ab7e p11 p176 ov217.2.2), trivial⟩)), trivial⟩
      · skip
        refine tr_aload_n dX12_readFresh_27 rfl ?_
        refine q_iconst dX12_readFresh_28 (by decide) ?_
        intro v234 h235
        refine q_callVv hE (M' := mX12_flaw) (as := [_]) dX12_readFresh_29 lk12_145 inX12_flaw seX12_flaw myX12_flaw (by decide) ⟨by decide, by decide⟩ rfl (kR15 hS178.1 ta0) (Nat.le_of_ble_eq_true rfl) rfl rfl (by decide) (by decide) (k_X12_flaw hS178.1 ta0 (by exact om_7e011daf h235)) ?_
        rintro cn' K' N' I236 R237 L238 ⟨rfl, rfl, rfl, rfl, rfl, g239, p241, p242, w243, -⟩
        have hS244 := hS178.tr g239 (by decide +kernel) (by decide +kernel)
        have c245 : I236 a0 10 = v8 := (g239.cell ta0 (by decide +kernel)).trans c179
        have c246 : I236 a0 11 = v12 := (g239.cell ta0 (by decide +kernel)).trans c180
        have c247 : I236 a0 12 = v18 := (g239.cell ta0 (by decide +kernel)).trans c181
        have c248 : I236 a0 8 = v21 := (g239.cell ta0 (by decide +kernel)).trans c182
        obtain ⟨v249, c250⟩ : ∃ v, I236 a0 9 = v := ⟨_, rfl⟩
        have b251 := iv15_9 hS244.1 ta0 c250
        rw [c250] at p241
        rw [c248] at p242
        rw [c182] at p242
        have ov252 := w243.over (by rw [c184]; exact om_394b70a2 p174)
        obtain ⟨v253, c254⟩ : ∃ v, I236 a0 9 = v := ⟨_, rfl⟩
        have b255 := iv15_9 hS244.1 ta0 c254
        obtain ⟨v256, c257⟩ : ∃ v, I236 a0 13 = v := ⟨_, rfl⟩
        obtain ⟨v258, c259⟩ : ∃ v, I236 a0 14 = v := ⟨_, rfl⟩
        (try rw [c254] at ov252)
        (try rw [c257] at ov252)
        (try rw [c259] at ov252)
        (try rw [c184] at ov252)
        (try rw [c187] at ov252)
        (try rw [c189] at ov252)
        refine tr_aload_n dX12_readFresh_32 rfl ?_
        refine q_getLE dX12_readFresh_33 fl12_118 (kR15 hS244.1 ta0) c16 ?_
        refine tr_lstore_n dX12_readFresh_36 (by decide) (by decide) (by decide) ?_
        refine tr_aload_n dX12_readFresh_37 rfl ?_
        refine q_callVv hE (M' := mX12_goesOn) (as := []) dX12_readFresh_38 lk12_142 inX12_goesOn seX12_goesOn myX12_goesOn (by decide) ⟨by decide, by decide⟩ rfl (kR15 hS244.1 ta0) (Nat.le_of_ble_eq_true rfl) rfl rfl (by decide) (by decide) (k_X12_goesOn hS244.1 ta0) ?_
        rintro cn' K' N' I260 R261 L262 ⟨rfl, rfl, rfl, rfl, g263, p265, p266, p267, w268, -⟩
        have hS269 := hS244.tr g263 (by decide +kernel) (by decide +kernel)
        have c270 : I260 a0 13 = v256 := (g263.cell ta0 (by decide +kernel)).trans c257
        have c271 : I260 a0 14 = v258 := (g263.cell ta0 (by decide +kernel)).trans c259
        obtain ⟨v272, c273⟩ : ∃ v, I260 a0 9 = v := ⟨_, rfl⟩
        have b274 := iv15_9 hS269.1 ta0 c273
        rw [c254] at p265
        rw [c273] at p265
        rw [c254] at p266
        rw [c273] at p266
        obtain ⟨v275, c276⟩ : ∃ v, I260 a0 8 = v := ⟨_, rfl⟩
        have b277 := iv15_8 hS269.1 ta0 c276
        rw [c276] at p267
        rw [c248] at p267
        rw [c270] at p267
        rw [c257] at p267
        have ov278 := w268.over (by rw [c254]; exact om_394b70a2 ov252.1)
        obtain ⟨v279, c280⟩ : ∃ v, I260 a0 9 = v := ⟨_, rfl⟩
        have b281 := iv15_9 hS269.1 ta0 c280
        obtain ⟨v282, c283⟩ : ∃ v, I260 a0 13 = v := ⟨_, rfl⟩
        obtain ⟨v284, c285⟩ : ∃ v, I260 a0 14 = v := ⟨_, rfl⟩
        (try rw [c280] at ov278)
        (try rw [c283] at ov278)
        (try rw [c285] at ov278)
        (try rw [c254] at ov278)
        (try rw [c257] at ov278)
        (try rw [c259] at ov278)
        refine tr_lload_n dX12_readFresh_41 rfl ?_
        obtain ⟨v286, c287⟩ : ∃ v, I260 a0 10 = v := ⟨_, rfl⟩
        have b288 := iv15_10 hS269.1 ta0 c287
        obtain ⟨v289, c290⟩ : ∃ v, I260 a0 11 = v := ⟨_, rfl⟩
        obtain ⟨y291, c292⟩ : ∃ v, L262 a0 15 = v := ⟨_, rfl⟩
        obtain ⟨v293, c294⟩ : ∃ v, I260 a0 12 = v := ⟨_, rfl⟩
        exact tr_lret hZ dX12_readFresh_42 rfl (by decide) (by decide) ⟨y15, rfl, rfl, rfl, rfl, rfl, hS269, (Or.inr (Or.inl ⟨(by first | done | with_reducible assumption | omega), (by (try rw [c280]); first | done | with_reducible assumption | exact om_394b70a2 ov278.1), (by (try rw [c283]); first | done | with_reducible assumption | exact om_c5dea795 h167 p175 ov252.2.1 ov278.2.1), (by (try rw [c285]); first | done | with_reducible assumption | exact om_751d021b p11 p176 ov252.2.2 ov278.2.2), trivial⟩)), trivial⟩
def wik_X12_names : List Nat := [903, 4799, 4863]
def wrk_X12_names : List Nat := []
def wlk_X12_names : List Nat := [4735]
set_option maxHeartbeats 4000000 in
theorem fk_X12_names {l : Launch} {T : Nat → Nat} {cn : Nat} {K N : Nat → Nat} {I0 : cz_I} {R0 : cz_R} {L0 : cz_L} (hW0 : Wf T cn K N I0 R0 0)  {a0 : Nat} (ta0 : T a0 = 15) {y1 : Int64} {x2 : Int32} {x3 : Int32} (pre0 : ∀ b1, R0 a0 4 = some b1 → (I0 b1 7).toInt ≤ 12) (nn4 : ∃ b, R0 a0 4 = some b) : ConE l mX12_names [.ref a0, .long y1, .int x2, .int x3] cn K N I0 R0 L0 (ca_v (fun cn' K' N' I' R' L' => cn = cn' ∧ K = K' ∧ N = N' ∧ R0 = R' ∧ St T cn K N 1 wik_X12_names wrk_X12_names I0 R0 I' R0 ∧ LgS T wlk_X12_names L0 L' ∧ (∀ b, R0 a0 4 = some b → NaW I0 R0 L0 b y1 x2 x3 I' L') ∧ (∀ dr, R0 a0 4 = some dr → FrO 14 dr T I0 I') ∧ True)) := by
  refine ConE.of (by decide +kernel) rfl (Nat.le_of_ble_eq_true rfl) rfl (fun X hX hZ hE => ?_)
  subst hX
  have hS0 : St T cn K N 0 wik_X12_names wrk_X12_names I0 R0 I0 R0 := St.rf0 hW0
  have hL0 : LgS T wlk_X12_names L0 L0 := LgS.rf0
  obtain ⟨a1, d2⟩ := nn4
  have ta1 : T a1 = 14 := hW0.rsN ta0 rfl d2
  obtain ⟨v3, c4⟩ : ∃ v, I0 a1 7 = v := ⟨_, rfl⟩
  have b5 := iv14_7 hS0.1 ta1 c4
  have p6 := pre0 _ d2
  rw [c4] at p6
  have hO0 : FrO 14 a1 T I0 I0 := FrO.rf
  refine tr_aload_n dX12_names_0 rfl ?_
  refine tr_getR dX12_names_1 fl12_188 (kR15 hS0.1 ta0) d2 ?_
  obtain ⟨a7, d8, ta7⟩ := rf14_30 hW0 ta1
  refine tr_getR dX12_names_4 fl12_205 (kR14 hS0.1 ta1) d8 ?_
  refine tr_aload_n dX12_names_7 rfl ?_
  refine tr_getR dX12_names_8 fl12_188 (kR15 hS0.1 ta0) d2 ?_
  refine q_getI dX12_names_11 fl12_209 (kR14 hS0.1 ta1) c4 ?_
  refine tr_lload_n dX12_names_14 rfl ?_
  refine q_lastE dX12_names_15 (kR73 hS0.1 ta7) (ti_in (nR73 hS0.1 ta7) (by exact om_c4b9cbc2 b5.2 b5.1 p6) (by exact om_be20f1ce b5.2 b5.1 p6)) hL0 ta7 (by rfl) ?_
  intro L9 hL10 e11 f12
  refine tr_aload_n dX12_names_16 rfl ?_
  refine tr_getR dX12_names_17 fl12_188 (kR15 hS0.1 ta0) d2 ?_
  obtain ⟨a13, d14, ta13⟩ := rf14_31 hW0 ta1
  refine tr_getR dX12_names_20 fl12_212 (kR14 hS0.1 ta1) d14 ?_
  refine tr_aload_n dX12_names_23 rfl ?_
  refine tr_getR dX12_names_24 fl12_188 (kR15 hS0.1 ta0) d2 ?_
  refine q_getI dX12_names_27 fl12_209 (kR14 hS0.1 ta1) c4 ?_
  refine tr_iload_n dX12_names_30 rfl ?_
  refine q_iast dX12_names_31 (kR74 hS0.1 ta13) (ti_in (nR74 hS0.1 ta13) (by exact om_c4b9cbc2 b5.2 b5.1 p6) (by exact om_be20f1ce b5.2 b5.1 p6)) hS0 ta13 (iokF rfl) rfl (by rfl) ?_
  intro I15 hS16 e18 f17
  have c19 : I15 a1 7 = v3 := (f17 _ _ (fun q => by have z := ta1; rw [q.1, ta13] at z; exact absurd z (by decide))).trans c4
  have hO20 : FrO 14 a1 T I0 I15 := hO0.put f17 ta13 (Or.inl (by decide))
  refine tr_aload_n dX12_names_32 rfl ?_
  refine tr_getR dX12_names_33 fl12_188 (kR15 hS16.1 ta0) d2 ?_
  obtain ⟨a21, d22, ta21⟩ := rf14_32 hW0 ta1
  refine tr_getR dX12_names_36 fl12_215 (kR14 hS16.1 ta1) d22 ?_
  refine tr_aload_n dX12_names_39 rfl ?_
  refine tr_getR dX12_names_40 fl12_188 (kR15 hS16.1 ta0) d2 ?_
  refine q_getI dX12_names_43 fl12_209 (kR14 hS16.1 ta1) c19 ?_
  refine tr_iload dX12_names_46 rfl ?_
  refine q_iast dX12_names_48 (kR75 hS16.1 ta21) (ti_in (nR75 hS16.1 ta21) (by exact om_c4b9cbc2 b5.2 b5.1 p6) (by exact om_be20f1ce b5.2 b5.1 p6)) hS16 ta21 (iokF rfl) rfl (by rfl) ?_
  intro I23 hS24 e26 f25
  have c27 : I23 a1 7 = v3 := (f25 _ _ (fun q => by have z := ta1; rw [q.1, ta21] at z; exact absurd z (by decide))).trans c19
  have hO28 : FrO 14 a1 T I0 I23 := hO20.put f25 ta21 (Or.inl (by decide))
  refine tr_aload_n dX12_names_49 rfl ?_
  refine tr_getR dX12_names_50 fl12_188 (kR15 hS24.1 ta0) d2 ?_
  refine tr_dup dX12_names_53 rfl ?_
  refine q_getI dX12_names_54 fl12_209 (kR14 hS24.1 ta1) c27 ?_
  refine q_iconst dX12_names_57 (by decide) ?_
  intro v29 h30
  refine q_iaddE dX12_names_58 (by intro j1 j2 j3 j4; exact om_1b409778 b5.2 b5.1 p6 h30) ?_
  intro v31 h32
  refine q_putX dX12_names_59 fl12_209 (kR14 hS24.1 ta1) (Or.inl rfl) hS24 ta1 (by decide +kernel) (hS24.1.putN (d' := 1) ta0 d2 (Or.inl rfl) (by rw [c27]; exact om_73462c49 h30 h32) (by decide) (by show (0 : Int) ≤ v31.toInt ∧ v31.toInt ≤ (13 : Int); exact om_e79c351a b5.2 b5.1 p6 h30 h32)) ?_
  intro I33 hS34 e35 f36
  have hO37 : FrO 14 a1 T I0 I33 := hO28.put f36 ta1 (Or.inr rfl)
  exact tr_vret hZ dX12_names_62 rfl (by decide) (by decide) ⟨rfl, rfl, rfl, rfl, rfl, hS34, hL10, (fun b hb => by obtain rfl := Option.some.inj (d2.symm.trans hb); exact (fun t u w ht hu hw k => by
      obtain rfl := Option.some.inj (d8.symm.trans ht)
      obtain rfl := Option.some.inj (d14.symm.trans hu)
      obtain rfl := Option.some.inj (d22.symm.trans hw)
      have en := ti_nat (i := v3) (by exact om_89eddc96 b5.2 b5.1 p6 h30 h32)
      rw [c4]
      refine ⟨fun hk => ?_, fun hk => ?_⟩
      · obtain rfl : k = v3.toNatClampNeg := by exact om_51a30b71 h30 h32 en hk
        exact ⟨e11, (f36 _ _ (fun q => by have z := ta13; rw [q.1, ta1] at z; exact absurd z (by decide))).trans ((f25 _ _ (fun q => by have z := ta13; rw [q.1, ta21] at z; exact absurd z (by decide))).trans e18), (f36 _ _ (fun q => by have z := ta21; rw [q.1, ta1] at z; exact absurd z (by decide))).trans e26⟩
      · have hk2 : ¬ k = v3.toNatClampNeg := by exact om_14996e7d h30 h32 en hk
        exact ⟨f12 _ _ (fun q => hk2 q.2), (f36 _ _ (fun q => by have z := ta13; rw [q.1, ta1] at z; exact absurd z (by decide))).trans ((f25 _ _ (fun q => by have z := ta13; rw [q.1, ta21] at z; exact absurd z (by decide))).trans (f17 _ _ (fun q => hk2 q.2))), (f36 _ _ (fun q => by have z := ta21; rw [q.1, ta1] at z; exact absurd z (by decide))).trans ((f25 _ _ (fun q => hk2 q.2)).trans (f17 _ _ (fun q => by have z := ta21; rw [q.1, ta13] at z; exact absurd z (by decide))))⟩)), (fun dr hd => (Option.some.inj (d2.symm.trans hd)) ▸ hO37), trivial⟩
def wif_oA48_5 : List Nat := []
def wrf_oA48_5 : List Nat := []
def wlf_oA48_5 : List Nat := []
set_option maxHeartbeats 4000000 in
theorem sf_oA48_5 {X : cz_X} (hE : cz_env X) {T : Nat → Nat} {cn : Nat} {K N : Nat → Nat} {I0 : cz_I} {R0 : cz_R} {L0 : cz_L} {Q : cz_Q} (hZ : cz_Z X mX12_readAlp Q) (hW0 : Wf T cn K N I0 R0 0) (gB : cz_B) {a0 : Nat} (ta0 : T a0 = 15) {x1 : Int32} {x2 : Int32} {x3 : Int32} (hx3 : 5 ≤ x3.toInt ∧ x3.toInt ≤ 5) (pre0 : (I0 a0 9).toInt = 5) (nn4 : ∃ b, R0 a0 4 = some b) {ls : Nat → Option Value} (hl0 : ls 0 = some (.ref a0)) (hl1 : ls 1 = some (.int x1)) (hl2 : ls 2 = some (.int x2)) (hl3 : ls 3 = some (.int x3)) (hq : ∀ (I' : cz_I) (R' : cz_R) (L' : cz_L), St T cn K N 0 wif_oA48_5 wrf_oA48_5 I0 R0 I' R' ∧ ((I' a0 9).toInt = 5) ∧ ((I' a0 13).toInt = (I0 a0 13).toInt) ∧ ((I' a0 14).toInt = (I0 a0 14).toInt) ∧ (∀ b, R0 a0 4 = some b → FrM R0 b T I0 I') ∧ True → Q none cn K N I' R' L') : Tr X mX12_readAlp 48 ls [] cn K N I0 R0 L0 0 0 := by
  have hS0 : St T cn K N 0 wif_oA48_5 wrf_oA48_5 I0 R0 I0 R0 := St.rf0 hW0
  have hL0 : LgS T wlf_oA48_5 L0 L0 := LgS.rf0
  obtain ⟨a1, d2⟩ := nn4
  have ta1 : T a1 = 14 := hW0.rsN ta0 rfl d2
  obtain ⟨v3, c4⟩ : ∃ v, I0 a0 9 = v := ⟨_, rfl⟩
  have b5 := iv15_9 hW0 ta0 c4
  have p6 := pre0
  rw [c4] at p6
  obtain ⟨v7, c8⟩ : ∃ v, I0 a0 13 = v := ⟨_, rfl⟩
  obtain ⟨v9, c10⟩ : ∃ v, I0 a0 14 = v := ⟨_, rfl⟩
  refine tr_iload_n dX12_readAlp_48 hl3 ?_
  refine q_iconst dX12_readAlp_49 (by decide) ?_
  intro v11 h12
  refine q_icmp_ge 85 dX12_readAlp_50 (by decide) (fun h13 => ?_) (fun h13 => ?_)
  · skip
    refine tr_aload_n dX12_readAlp_85 hl0 ?_
    refine q_getI dX12_readAlp_86 fl12_99 (kR15 hS0.1 ta0) c4 ?_
    refine q_iconst dX12_readAlp_89 (by decide) ?_
    intro v14 h15
    refine q_icmp_ne 94 dX12_readAlp_90 (by decide) (fun h16 => ?_) (fun h16 => ?_)
    · skip
      exfalso; exact om_1fa3e129 p6 h15 h16
    · skip
      exact tr_vret hZ dX12_readAlp_93 rfl (by decide) (by decide) (hq _ _ _ ⟨hS0, (by (try rw [c4]); first | done | with_reducible assumption | omega), (by (try rw [c8]); first | done | with_reducible assumption | omega), (by (try rw [c10]); first | done | with_reducible assumption | omega), (fun b hb => (Option.some.inj (d2.symm.trans hb)) ▸ (FrM.rf (R := R0) (b := a1) (T := T))), trivial⟩)
  · skip
    exfalso; exact om_25a76b5b hx3.2 hx3.1 h12 h13
def wif_oA48_4 : List Nat := [968, 969, 970, 971, 972, 973, 974, 3455]
def wrf_oA48_4 : List Nat := []
def wlf_oA48_4 : List Nat := []
set_option maxHeartbeats 4000000 in
theorem sf_oA48_4 {X : cz_X} (hE : cz_env X) {T : Nat → Nat} {cn : Nat} {K N : Nat → Nat} {I0 : cz_I} {R0 : cz_R} {L0 : cz_L} {Q : cz_Q} (hZ : cz_Z X mX12_readAlp Q) (hW0 : Wf T cn K N I0 R0 0) (gB : cz_B) {a0 : Nat} (ta0 : T a0 = 15) {x1 : Int32} {x2 : Int32} {x3 : Int32} (hx3 : 4 ≤ x3.toInt ∧ x3.toInt ≤ 4) (pre0 : (I0 a0 9).toInt = 5) (nn4 : ∃ b, R0 a0 4 = some b) {ls : Nat → Option Value} (hl0 : ls 0 = some (.ref a0)) (hl1 : ls 1 = some (.int x1)) (hl2 : ls 2 = some (.int x2)) (hl3 : ls 3 = some (.int x3)) (hq : ∀ (I' : cz_I) (R' : cz_R) (L' : cz_L), St T cn K N 0 wif_oA48_4 wrf_oA48_4 I0 R0 I' R' ∧ ((I' a0 9).toInt = 5) ∧ ((I' a0 13).toInt = (I0 a0 13).toInt) ∧ ((I' a0 14).toInt = (I0 a0 14).toInt) ∧ (∀ b, R0 a0 4 = some b → FrM R0 b T I0 I') ∧ True → Q none cn K N I' R' L') : Tr X mX12_readAlp 48 ls [] cn K N I0 R0 L0 0 0 := by
  have hS0 : St T cn K N 0 wif_oA48_4 wrf_oA48_4 I0 R0 I0 R0 := St.rf0 hW0
  have hL0 : LgS T wlf_oA48_4 L0 L0 := LgS.rf0
  obtain ⟨a1, d2⟩ := nn4
  have ta1 : T a1 = 14 := hW0.rsN ta0 rfl d2
  obtain ⟨v3, c4⟩ : ∃ v, I0 a0 9 = v := ⟨_, rfl⟩
  have b5 := iv15_9 hS0.1 ta0 c4
  have p6 := pre0
  rw [c4] at p6
  obtain ⟨v7, c8⟩ : ∃ v, I0 a0 13 = v := ⟨_, rfl⟩
  obtain ⟨v9, c10⟩ : ∃ v, I0 a0 14 = v := ⟨_, rfl⟩
  refine tr_iload_n dX12_readAlp_48 hl3 ?_
  refine q_iconst dX12_readAlp_49 (by decide) ?_
  intro v11 h12
  refine q_icmp_ge 85 dX12_readAlp_50 (by decide) (fun h13 => ?_) (fun h13 => ?_)
  · skip
    exfalso; exact om_6ef030a8 hx3.2 hx3.1 h12 h13
  · skip
    refine tr_iload_n dX12_readAlp_53 hl3 ?_
    refine q_if_le 63 dX12_readAlp_54 (by decide) (fun h14 => ?_) (fun h14 => ?_)
    · skip
      exfalso; exact om_4e2b5526 hx3.2 hx3.1 h14
    · skip
      refine tr_aload_n dX12_readAlp_57 hl0 ?_
      refine q_bipush dX12_readAlp_58 (by decide +kernel) ?_
      intro v15 h16
      refine q_callVv hE (M' := mX12_needsSign) (as := [_]) dX12_readAlp_60 lk12_257 inX12_needsSign seX12_needsSign myX12_needsSign (by decide) ⟨by decide, by decide⟩ rfl (kR15 hS0.1 ta0) (Nat.le_of_ble_eq_true rfl) rfl rfl (by decide) (by decide) (k_X12_needsSign hS0.1 ta0) ?_
      rintro cn' K' N' I17 R18 L19 ⟨rfl, rfl, rfl, rfl, g20, w22, -⟩
      have hS23 := hS0.tr g20 (by decide +kernel) (by decide +kernel)
      have ov24 := w22.over (by rw [c4]; exact om_394b70a2 p6)
      obtain ⟨v25, c26⟩ : ∃ v, I17 a0 9 = v := ⟨_, rfl⟩
      have b27 := iv15_9 hS23.1 ta0 c26
      obtain ⟨v28, c29⟩ : ∃ v, I17 a0 13 = v := ⟨_, rfl⟩
      obtain ⟨v30, c31⟩ : ∃ v, I17 a0 14 = v := ⟨_, rfl⟩
      (try rw [c26] at ov24)
      (try rw [c29] at ov24)
      (try rw [c31] at ov24)
      (try rw [c4] at ov24)
      (try rw [c8] at ov24)
      (try rw [c10] at ov24)
      refine tr_aload_n dX12_readAlp_63 hl0 ?_
      refine tr_getR dX12_readAlp_64 fl12_188 (kR15 hS23.1 ta0) d2 ?_
      obtain ⟨a32, d33, ta32⟩ := rf14_10 hW0 ta1
      refine tr_getR dX12_readAlp_67 fl12_260 (kR14 hS23.1 ta1) d33 ?_
      refine tr_iload_n dX12_readAlp_70 hl3 ?_
      refine tr_aload_n dX12_readAlp_71 hl0 ?_
      refine q_iconst dX12_readAlp_72 (by decide) ?_
      intro v34 h35
      refine q_bipush dX12_readAlp_73 (by decide +kernel) ?_
      intro v36 h37
      refine q_callVi hE (M' := mX12_readWhole) (as := [_, _]) dX12_readAlp_75 lk12_161 inX12_readWhole seX12_readWhole myX12_readWhole (by decide) ⟨by decide, by decide⟩ rfl (kR15 hS23.1 ta0) (Nat.le_of_ble_eq_true rfl) rfl rfl (by decide) (by decide) (k_X12_readWhole hS23.1 ta0) ?_
      rintro v42 cn' K' N' I38 R39 L40 ⟨rfl, rfl, rfl, rfl, g41, p43, w44, -⟩
      have hS45 := hS23.tr g41 (by decide +kernel) (by decide +kernel)
      have b46 : 0 ≤ v42.toInt ∧ v42.toInt ≤ 99 := by exact om_caf9e5f4 h35 h37 p43
      clear p43
      have ov47 := w44.over (by rw [c26]; exact om_394b70a2 ov24.1)
      obtain ⟨v48, c49⟩ : ∃ v, I38 a0 9 = v := ⟨_, rfl⟩
      have b50 := iv15_9 hS45.1 ta0 c49
      obtain ⟨v51, c52⟩ : ∃ v, I38 a0 13 = v := ⟨_, rfl⟩
      obtain ⟨v53, c54⟩ : ∃ v, I38 a0 14 = v := ⟨_, rfl⟩
      (try rw [c49] at ov47)
      (try rw [c52] at ov47)
      (try rw [c54] at ov47)
      (try rw [c26] at ov47)
      (try rw [c29] at ov47)
      (try rw [c31] at ov47)
      refine q_iast dX12_readAlp_78 (kR53 hS45.1 ta32) (ti_in (nR53 hS45.1 ta32) (by exact om_43532da4 hx3.2 hx3.1) (by exact om_12ac571b hx3.2 hx3.1)) hS45 ta32 (iokF rfl) rfl (by rfl) ?_
      intro I55 hS56 e58 f57
      have c59 : I55 a0 9 = v48 := (f57 _ _ (fun q => by have z := ta0; rw [q.1, ta32] at z; exact absurd z (by decide))).trans c49
      have c60 : I55 a0 13 = v51 := (f57 _ _ (fun q => by have z := ta0; rw [q.1, ta32] at z; exact absurd z (by decide))).trans c52
      have c61 : I55 a0 14 = v53 := (f57 _ _ (fun q => by have z := ta0; rw [q.1, ta32] at z; exact absurd z (by decide))).trans c54
      refine q_iincE dX12_readAlp_79 hl3 (by decide) (by decide) (by intro j1 j2; exact om_8c775024 hx3.2 hx3.1) ?_
      intro v62 h63
      refine tr_goto 48 dX12_readAlp_82 (by decide) ?_
      refine sf_oA48_5 hE hZ hS56.1 (gB) ta0 (by exact om_c9eff619 hx3.2 hx3.1 h63) (by (try rw [c59]); first | done | with_reducible assumption | exact om_394b70a2 ov47.1) ⟨_, d2⟩ hl0 hl1 hl2 rfl ?_
      rintro I64 R65 L66 ⟨g67, p68, p69, p70, rp71, -⟩
      obtain rfl : R0 = R65 := funext fun a => funext fun j => (g67.2.2 a j (wm_no rfl)).symm
      have hS72 := hS56.tr g67 (by decide +kernel) (by decide +kernel)
      have c73 : I64 a0 9 = v48 := (g67.cell ta0 (by decide +kernel)).trans c59
      have c74 : I64 a0 13 = v51 := (g67.cell ta0 (by decide +kernel)).trans c60
      have c75 : I64 a0 14 = v53 := (g67.cell ta0 (by decide +kernel)).trans c61
      rw [c73] at p68
      rw [c74] at p69
      rw [c60] at p69
      rw [c75] at p70
      rw [c61] at p70
      exact hq _ _ _ ⟨hS72, (by (try rw [c73]); first | done | with_reducible assumption | omega), (by (try rw [c74]); (try rw [c8]); first | done | with_reducible assumption | exact om_9fa72578 ov24.2.1 ov47.2.1), (by (try rw [c75]); (try rw [c10]); first | done | with_reducible assumption | exact om_9fa72578 ov24.2.2 ov47.2.2), (fun b hb => (Option.some.inj (d2.symm.trans hb)) ▸ (((((FrM.rf (R := R0) (b := a1) (T := T)).st g20 (by decide +kernel)).st g41 (by decide +kernel)).pu f57 (by decide) (by decide) d33).st g67 (by decide +kernel))), trivial⟩
def wif_oA48_3 : List Nat := [968, 969, 970, 971, 972, 973, 974, 3455]
def wrf_oA48_3 : List Nat := []
def wlf_oA48_3 : List Nat := []
set_option maxHeartbeats 4000000 in
theorem sf_oA48_3 {X : cz_X} (hE : cz_env X) {T : Nat → Nat} {cn : Nat} {K N : Nat → Nat} {I0 : cz_I} {R0 : cz_R} {L0 : cz_L} {Q : cz_Q} (hZ : cz_Z X mX12_readAlp Q) (hW0 : Wf T cn K N I0 R0 0) (gB : cz_B) {a0 : Nat} (ta0 : T a0 = 15) {x1 : Int32} {x2 : Int32} {x3 : Int32} (hx3 : 3 ≤ x3.toInt ∧ x3.toInt ≤ 3) (pre0 : (I0 a0 9).toInt = 5) (nn4 : ∃ b, R0 a0 4 = some b) {ls : Nat → Option Value} (hl0 : ls 0 = some (.ref a0)) (hl1 : ls 1 = some (.int x1)) (hl2 : ls 2 = some (.int x2)) (hl3 : ls 3 = some (.int x3)) (hq : ∀ (I' : cz_I) (R' : cz_R) (L' : cz_L), St T cn K N 0 wif_oA48_3 wrf_oA48_3 I0 R0 I' R' ∧ ((I' a0 9).toInt = 5) ∧ ((I' a0 13).toInt = (I0 a0 13).toInt) ∧ ((I' a0 14).toInt = (I0 a0 14).toInt) ∧ (∀ b, R0 a0 4 = some b → FrM R0 b T I0 I') ∧ True → Q none cn K N I' R' L') : Tr X mX12_readAlp 48 ls [] cn K N I0 R0 L0 0 0 := by
  have hS0 : St T cn K N 0 wif_oA48_3 wrf_oA48_3 I0 R0 I0 R0 := St.rf0 hW0
  have hL0 : LgS T wlf_oA48_3 L0 L0 := LgS.rf0
  obtain ⟨a1, d2⟩ := nn4
  have ta1 : T a1 = 14 := hW0.rsN ta0 rfl d2
  obtain ⟨v3, c4⟩ : ∃ v, I0 a0 9 = v := ⟨_, rfl⟩
  have b5 := iv15_9 hS0.1 ta0 c4
  have p6 := pre0
  rw [c4] at p6
  obtain ⟨v7, c8⟩ : ∃ v, I0 a0 13 = v := ⟨_, rfl⟩
  obtain ⟨v9, c10⟩ : ∃ v, I0 a0 14 = v := ⟨_, rfl⟩
  refine tr_iload_n dX12_readAlp_48 hl3 ?_
  refine q_iconst dX12_readAlp_49 (by decide) ?_
  intro v11 h12
  refine q_icmp_ge 85 dX12_readAlp_50 (by decide) (fun h13 => ?_) (fun h13 => ?_)
  · skip
    exfalso; exact om_8e8e7379 hx3.2 hx3.1 h12 h13
  · skip
    refine tr_iload_n dX12_readAlp_53 hl3 ?_
    refine q_if_le 63 dX12_readAlp_54 (by decide) (fun h14 => ?_) (fun h14 => ?_)
    · skip
      exfalso; exact om_6650b5b8 hx3.2 hx3.1 h14
    · skip
      refine tr_aload_n dX12_readAlp_57 hl0 ?_
      refine q_bipush dX12_readAlp_58 (by decide +kernel) ?_
      intro v15 h16
      refine q_callVv hE (M' := mX12_needsSign) (as := [_]) dX12_readAlp_60 lk12_257 inX12_needsSign seX12_needsSign myX12_needsSign (by decide) ⟨by decide, by decide⟩ rfl (kR15 hS0.1 ta0) (Nat.le_of_ble_eq_true rfl) rfl rfl (by decide) (by decide) (k_X12_needsSign hS0.1 ta0) ?_
      rintro cn' K' N' I17 R18 L19 ⟨rfl, rfl, rfl, rfl, g20, w22, -⟩
      have hS23 := hS0.tr g20 (by decide +kernel) (by decide +kernel)
      have ov24 := w22.over (by rw [c4]; exact om_394b70a2 p6)
      obtain ⟨v25, c26⟩ : ∃ v, I17 a0 9 = v := ⟨_, rfl⟩
      have b27 := iv15_9 hS23.1 ta0 c26
      obtain ⟨v28, c29⟩ : ∃ v, I17 a0 13 = v := ⟨_, rfl⟩
      obtain ⟨v30, c31⟩ : ∃ v, I17 a0 14 = v := ⟨_, rfl⟩
      (try rw [c26] at ov24)
      (try rw [c29] at ov24)
      (try rw [c31] at ov24)
      (try rw [c4] at ov24)
      (try rw [c8] at ov24)
      (try rw [c10] at ov24)
      refine tr_aload_n dX12_readAlp_63 hl0 ?_
      refine tr_getR dX12_readAlp_64 fl12_188 (kR15 hS23.1 ta0) d2 ?_
      obtain ⟨a32, d33, ta32⟩ := rf14_10 hW0 ta1
      refine tr_getR dX12_readAlp_67 fl12_260 (kR14 hS23.1 ta1) d33 ?_
      refine tr_iload_n dX12_readAlp_70 hl3 ?_
      refine tr_aload_n dX12_readAlp_71 hl0 ?_
      refine q_iconst dX12_readAlp_72 (by decide) ?_
      intro v34 h35
      refine q_bipush dX12_readAlp_73 (by decide +kernel) ?_
      intro v36 h37
      refine q_callVi hE (M' := mX12_readWhole) (as := [_, _]) dX12_readAlp_75 lk12_161 inX12_readWhole seX12_readWhole myX12_readWhole (by decide) ⟨by decide, by decide⟩ rfl (kR15 hS23.1 ta0) (Nat.le_of_ble_eq_true rfl) rfl rfl (by decide) (by decide) (k_X12_readWhole hS23.1 ta0) ?_
      rintro v42 cn' K' N' I38 R39 L40 ⟨rfl, rfl, rfl, rfl, g41, p43, w44, -⟩
      have hS45 := hS23.tr g41 (by decide +kernel) (by decide +kernel)
      have b46 : 0 ≤ v42.toInt ∧ v42.toInt ≤ 99 := by exact om_caf9e5f4 h35 h37 p43
      clear p43
      have ov47 := w44.over (by rw [c26]; exact om_394b70a2 ov24.1)
      obtain ⟨v48, c49⟩ : ∃ v, I38 a0 9 = v := ⟨_, rfl⟩
      have b50 := iv15_9 hS45.1 ta0 c49
      obtain ⟨v51, c52⟩ : ∃ v, I38 a0 13 = v := ⟨_, rfl⟩
      obtain ⟨v53, c54⟩ : ∃ v, I38 a0 14 = v := ⟨_, rfl⟩
      (try rw [c49] at ov47)
      (try rw [c52] at ov47)
      (try rw [c54] at ov47)
      (try rw [c26] at ov47)
      (try rw [c29] at ov47)
      (try rw [c31] at ov47)
      refine q_iast dX12_readAlp_78 (kR53 hS45.1 ta32) (ti_in (nR53 hS45.1 ta32) (by exact om_7b0bb40e hx3.2 hx3.1) (by exact om_cb2be459 hx3.2 hx3.1)) hS45 ta32 (iokF rfl) rfl (by rfl) ?_
      intro I55 hS56 e58 f57
      have c59 : I55 a0 9 = v48 := (f57 _ _ (fun q => by have z := ta0; rw [q.1, ta32] at z; exact absurd z (by decide))).trans c49
      have c60 : I55 a0 13 = v51 := (f57 _ _ (fun q => by have z := ta0; rw [q.1, ta32] at z; exact absurd z (by decide))).trans c52
      have c61 : I55 a0 14 = v53 := (f57 _ _ (fun q => by have z := ta0; rw [q.1, ta32] at z; exact absurd z (by decide))).trans c54
      refine q_iincE dX12_readAlp_79 hl3 (by decide) (by decide) (by intro j1 j2; exact om_02a073b0 hx3.2 hx3.1) ?_
      intro v62 h63
      refine tr_goto 48 dX12_readAlp_82 (by decide) ?_
      refine sf_oA48_4 hE hZ hS56.1 (gB) ta0 (by exact om_a4f44aef hx3.2 hx3.1 h63) (by (try rw [c59]); first | done | with_reducible assumption | exact om_394b70a2 ov47.1) ⟨_, d2⟩ hl0 hl1 hl2 rfl ?_
      rintro I64 R65 L66 ⟨g67, p68, p69, p70, rp71, -⟩
      obtain rfl : R0 = R65 := funext fun a => funext fun j => (g67.2.2 a j (wm_no rfl)).symm
      have hS72 := hS56.tr g67 (by decide +kernel) (by decide +kernel)
      obtain ⟨v73, c74⟩ : ∃ v, I64 a0 9 = v := ⟨_, rfl⟩
      have b75 := iv15_9 hS72.1 ta0 c74
      rw [c74] at p68
      obtain ⟨v76, c77⟩ : ∃ v, I64 a0 13 = v := ⟨_, rfl⟩
      rw [c77] at p69
      rw [c60] at p69
      obtain ⟨v78, c79⟩ : ∃ v, I64 a0 14 = v := ⟨_, rfl⟩
      rw [c79] at p70
      rw [c61] at p70
      exact hq _ _ _ ⟨hS72, (by (try rw [c74]); first | done | with_reducible assumption | omega), (by (try rw [c77]); (try rw [c8]); first | done | with_reducible assumption | exact om_1c22ab7e ov24.2.1 ov47.2.1 p69), (by (try rw [c79]); (try rw [c10]); first | done | with_reducible assumption | exact om_1c22ab7e ov24.2.2 ov47.2.2 p70), (fun b hb => (Option.some.inj (d2.symm.trans hb)) ▸ (((((FrM.rf (R := R0) (b := a1) (T := T)).st g20 (by decide +kernel)).st g41 (by decide +kernel)).pu f57 (by decide) (by decide) d33).tr (rp71 _ d2))), trivial⟩
def wif_oA48_2 : List Nat := [968, 969, 970, 971, 972, 973, 974, 3455]
def wrf_oA48_2 : List Nat := []
def wlf_oA48_2 : List Nat := []
set_option maxHeartbeats 4000000 in
theorem sf_oA48_2 {X : cz_X} (hE : cz_env X) {T : Nat → Nat} {cn : Nat} {K N : Nat → Nat} {I0 : cz_I} {R0 : cz_R} {L0 : cz_L} {Q : cz_Q} (hZ : cz_Z X mX12_readAlp Q) (hW0 : Wf T cn K N I0 R0 0) (gB : cz_B) {a0 : Nat} (ta0 : T a0 = 15) {x1 : Int32} {x2 : Int32} {x3 : Int32} (hx3 : 2 ≤ x3.toInt ∧ x3.toInt ≤ 2) (pre0 : (I0 a0 9).toInt = 5) (nn4 : ∃ b, R0 a0 4 = some b) {ls : Nat → Option Value} (hl0 : ls 0 = some (.ref a0)) (hl1 : ls 1 = some (.int x1)) (hl2 : ls 2 = some (.int x2)) (hl3 : ls 3 = some (.int x3)) (hq : ∀ (I' : cz_I) (R' : cz_R) (L' : cz_L), St T cn K N 0 wif_oA48_2 wrf_oA48_2 I0 R0 I' R' ∧ ((I' a0 9).toInt = 5) ∧ ((I' a0 13).toInt = (I0 a0 13).toInt) ∧ ((I' a0 14).toInt = (I0 a0 14).toInt) ∧ (∀ b, R0 a0 4 = some b → FrM R0 b T I0 I') ∧ True → Q none cn K N I' R' L') : Tr X mX12_readAlp 48 ls [] cn K N I0 R0 L0 0 0 := by
  have hS0 : St T cn K N 0 wif_oA48_2 wrf_oA48_2 I0 R0 I0 R0 := St.rf0 hW0
  have hL0 : LgS T wlf_oA48_2 L0 L0 := LgS.rf0
  obtain ⟨a1, d2⟩ := nn4
  have ta1 : T a1 = 14 := hW0.rsN ta0 rfl d2
  obtain ⟨v3, c4⟩ : ∃ v, I0 a0 9 = v := ⟨_, rfl⟩
  have b5 := iv15_9 hS0.1 ta0 c4
  have p6 := pre0
  rw [c4] at p6
  obtain ⟨v7, c8⟩ : ∃ v, I0 a0 13 = v := ⟨_, rfl⟩
  obtain ⟨v9, c10⟩ : ∃ v, I0 a0 14 = v := ⟨_, rfl⟩
  refine tr_iload_n dX12_readAlp_48 hl3 ?_
  refine q_iconst dX12_readAlp_49 (by decide) ?_
  intro v11 h12
  refine q_icmp_ge 85 dX12_readAlp_50 (by decide) (fun h13 => ?_) (fun h13 => ?_)
  · skip
    exfalso; exact om_2979c7ba hx3.2 hx3.1 h12 h13
  · skip
    refine tr_iload_n dX12_readAlp_53 hl3 ?_
    refine q_if_le 63 dX12_readAlp_54 (by decide) (fun h14 => ?_) (fun h14 => ?_)
    · skip
      exfalso; exact om_5c780de2 hx3.2 hx3.1 h14
    · skip
      refine tr_aload_n dX12_readAlp_57 hl0 ?_
      refine q_bipush dX12_readAlp_58 (by decide +kernel) ?_
      intro v15 h16
      refine q_callVv hE (M' := mX12_needsSign) (as := [_]) dX12_readAlp_60 lk12_257 inX12_needsSign seX12_needsSign myX12_needsSign (by decide) ⟨by decide, by decide⟩ rfl (kR15 hS0.1 ta0) (Nat.le_of_ble_eq_true rfl) rfl rfl (by decide) (by decide) (k_X12_needsSign hS0.1 ta0) ?_
      rintro cn' K' N' I17 R18 L19 ⟨rfl, rfl, rfl, rfl, g20, w22, -⟩
      have hS23 := hS0.tr g20 (by decide +kernel) (by decide +kernel)
      have ov24 := w22.over (by rw [c4]; exact om_394b70a2 p6)
      obtain ⟨v25, c26⟩ : ∃ v, I17 a0 9 = v := ⟨_, rfl⟩
      have b27 := iv15_9 hS23.1 ta0 c26
      obtain ⟨v28, c29⟩ : ∃ v, I17 a0 13 = v := ⟨_, rfl⟩
      obtain ⟨v30, c31⟩ : ∃ v, I17 a0 14 = v := ⟨_, rfl⟩
      (try rw [c26] at ov24)
      (try rw [c29] at ov24)
      (try rw [c31] at ov24)
      (try rw [c4] at ov24)
      (try rw [c8] at ov24)
      (try rw [c10] at ov24)
      refine tr_aload_n dX12_readAlp_63 hl0 ?_
      refine tr_getR dX12_readAlp_64 fl12_188 (kR15 hS23.1 ta0) d2 ?_
      obtain ⟨a32, d33, ta32⟩ := rf14_10 hW0 ta1
      refine tr_getR dX12_readAlp_67 fl12_260 (kR14 hS23.1 ta1) d33 ?_
      refine tr_iload_n dX12_readAlp_70 hl3 ?_
      refine tr_aload_n dX12_readAlp_71 hl0 ?_
      refine q_iconst dX12_readAlp_72 (by decide) ?_
      intro v34 h35
      refine q_bipush dX12_readAlp_73 (by decide +kernel) ?_
      intro v36 h37
      refine q_callVi hE (M' := mX12_readWhole) (as := [_, _]) dX12_readAlp_75 lk12_161 inX12_readWhole seX12_readWhole myX12_readWhole (by decide) ⟨by decide, by decide⟩ rfl (kR15 hS23.1 ta0) (Nat.le_of_ble_eq_true rfl) rfl rfl (by decide) (by decide) (k_X12_readWhole hS23.1 ta0) ?_
      rintro v42 cn' K' N' I38 R39 L40 ⟨rfl, rfl, rfl, rfl, g41, p43, w44, -⟩
      have hS45 := hS23.tr g41 (by decide +kernel) (by decide +kernel)
      have b46 : 0 ≤ v42.toInt ∧ v42.toInt ≤ 99 := by exact om_caf9e5f4 h35 h37 p43
      clear p43
      have ov47 := w44.over (by rw [c26]; exact om_394b70a2 ov24.1)
      obtain ⟨v48, c49⟩ : ∃ v, I38 a0 9 = v := ⟨_, rfl⟩
      have b50 := iv15_9 hS45.1 ta0 c49
      obtain ⟨v51, c52⟩ : ∃ v, I38 a0 13 = v := ⟨_, rfl⟩
      obtain ⟨v53, c54⟩ : ∃ v, I38 a0 14 = v := ⟨_, rfl⟩
      (try rw [c49] at ov47)
      (try rw [c52] at ov47)
      (try rw [c54] at ov47)
      (try rw [c26] at ov47)
      (try rw [c29] at ov47)
      (try rw [c31] at ov47)
      refine q_iast dX12_readAlp_78 (kR53 hS45.1 ta32) (ti_in (nR53 hS45.1 ta32) (by exact om_0757030c hx3.2 hx3.1) (by exact om_47c9576f hx3.2 hx3.1)) hS45 ta32 (iokF rfl) rfl (by rfl) ?_
      intro I55 hS56 e58 f57
      have c59 : I55 a0 9 = v48 := (f57 _ _ (fun q => by have z := ta0; rw [q.1, ta32] at z; exact absurd z (by decide))).trans c49
      have c60 : I55 a0 13 = v51 := (f57 _ _ (fun q => by have z := ta0; rw [q.1, ta32] at z; exact absurd z (by decide))).trans c52
      have c61 : I55 a0 14 = v53 := (f57 _ _ (fun q => by have z := ta0; rw [q.1, ta32] at z; exact absurd z (by decide))).trans c54
      refine q_iincE dX12_readAlp_79 hl3 (by decide) (by decide) (by intro j1 j2; exact om_0c0e1335 hx3.2 hx3.1) ?_
      intro v62 h63
      refine tr_goto 48 dX12_readAlp_82 (by decide) ?_
      refine sf_oA48_3 hE hZ hS56.1 (gB) ta0 (by exact om_c7964dd5 hx3.2 hx3.1 h63) (by (try rw [c59]); first | done | with_reducible assumption | exact om_394b70a2 ov47.1) ⟨_, d2⟩ hl0 hl1 hl2 rfl ?_
      rintro I64 R65 L66 ⟨g67, p68, p69, p70, rp71, -⟩
      obtain rfl : R0 = R65 := funext fun a => funext fun j => (g67.2.2 a j (wm_no rfl)).symm
      have hS72 := hS56.tr g67 (by decide +kernel) (by decide +kernel)
      obtain ⟨v73, c74⟩ : ∃ v, I64 a0 9 = v := ⟨_, rfl⟩
      have b75 := iv15_9 hS72.1 ta0 c74
      rw [c74] at p68
      obtain ⟨v76, c77⟩ : ∃ v, I64 a0 13 = v := ⟨_, rfl⟩
      rw [c77] at p69
      rw [c60] at p69
      obtain ⟨v78, c79⟩ : ∃ v, I64 a0 14 = v := ⟨_, rfl⟩
      rw [c79] at p70
      rw [c61] at p70
      exact hq _ _ _ ⟨hS72, (by (try rw [c74]); first | done | with_reducible assumption | omega), (by (try rw [c77]); (try rw [c8]); first | done | with_reducible assumption | exact om_1c22ab7e ov24.2.1 ov47.2.1 p69), (by (try rw [c79]); (try rw [c10]); first | done | with_reducible assumption | exact om_1c22ab7e ov24.2.2 ov47.2.2 p70), (fun b hb => (Option.some.inj (d2.symm.trans hb)) ▸ (((((FrM.rf (R := R0) (b := a1) (T := T)).st g20 (by decide +kernel)).st g41 (by decide +kernel)).pu f57 (by decide) (by decide) d33).tr (rp71 _ d2))), trivial⟩
def wif_oA48_1 : List Nat := [968, 969, 970, 971, 972, 973, 974, 3455]
def wrf_oA48_1 : List Nat := []
def wlf_oA48_1 : List Nat := []
set_option maxHeartbeats 4000000 in
theorem sf_oA48_1 {X : cz_X} (hE : cz_env X) {T : Nat → Nat} {cn : Nat} {K N : Nat → Nat} {I0 : cz_I} {R0 : cz_R} {L0 : cz_L} {Q : cz_Q} (hZ : cz_Z X mX12_readAlp Q) (hW0 : Wf T cn K N I0 R0 0) (gB : cz_B) {a0 : Nat} (ta0 : T a0 = 15) {x1 : Int32} {x2 : Int32} {x3 : Int32} (hx3 : 1 ≤ x3.toInt ∧ x3.toInt ≤ 1) (pre0 : (I0 a0 9).toInt = 5) (nn4 : ∃ b, R0 a0 4 = some b) {ls : Nat → Option Value} (hl0 : ls 0 = some (.ref a0)) (hl1 : ls 1 = some (.int x1)) (hl2 : ls 2 = some (.int x2)) (hl3 : ls 3 = some (.int x3)) (hq : ∀ (I' : cz_I) (R' : cz_R) (L' : cz_L), St T cn K N 0 wif_oA48_1 wrf_oA48_1 I0 R0 I' R' ∧ ((I' a0 9).toInt = 5) ∧ ((I' a0 13).toInt = (I0 a0 13).toInt) ∧ ((I' a0 14).toInt = (I0 a0 14).toInt) ∧ (∀ b, R0 a0 4 = some b → FrM R0 b T I0 I') ∧ True → Q none cn K N I' R' L') : Tr X mX12_readAlp 48 ls [] cn K N I0 R0 L0 0 0 := by
  have hS0 : St T cn K N 0 wif_oA48_1 wrf_oA48_1 I0 R0 I0 R0 := St.rf0 hW0
  have hL0 : LgS T wlf_oA48_1 L0 L0 := LgS.rf0
  obtain ⟨a1, d2⟩ := nn4
  have ta1 : T a1 = 14 := hW0.rsN ta0 rfl d2
  obtain ⟨v3, c4⟩ : ∃ v, I0 a0 9 = v := ⟨_, rfl⟩
  have b5 := iv15_9 hS0.1 ta0 c4
  have p6 := pre0
  rw [c4] at p6
  obtain ⟨v7, c8⟩ : ∃ v, I0 a0 13 = v := ⟨_, rfl⟩
  obtain ⟨v9, c10⟩ : ∃ v, I0 a0 14 = v := ⟨_, rfl⟩
  refine tr_iload_n dX12_readAlp_48 hl3 ?_
  refine q_iconst dX12_readAlp_49 (by decide) ?_
  intro v11 h12
  refine q_icmp_ge 85 dX12_readAlp_50 (by decide) (fun h13 => ?_) (fun h13 => ?_)
  · skip
    exfalso; exact om_34eca774 hx3.2 hx3.1 h12 h13
  · skip
    refine tr_iload_n dX12_readAlp_53 hl3 ?_
    refine q_if_le 63 dX12_readAlp_54 (by decide) (fun h14 => ?_) (fun h14 => ?_)
    · skip
      exfalso; exact om_461cd9b1 hx3.2 hx3.1 h14
    · skip
      refine tr_aload_n dX12_readAlp_57 hl0 ?_
      refine q_bipush dX12_readAlp_58 (by decide +kernel) ?_
      intro v15 h16
      refine q_callVv hE (M' := mX12_needsSign) (as := [_]) dX12_readAlp_60 lk12_257 inX12_needsSign seX12_needsSign myX12_needsSign (by decide) ⟨by decide, by decide⟩ rfl (kR15 hS0.1 ta0) (Nat.le_of_ble_eq_true rfl) rfl rfl (by decide) (by decide) (k_X12_needsSign hS0.1 ta0) ?_
      rintro cn' K' N' I17 R18 L19 ⟨rfl, rfl, rfl, rfl, g20, w22, -⟩
      have hS23 := hS0.tr g20 (by decide +kernel) (by decide +kernel)
      have ov24 := w22.over (by rw [c4]; exact om_394b70a2 p6)
      obtain ⟨v25, c26⟩ : ∃ v, I17 a0 9 = v := ⟨_, rfl⟩
      have b27 := iv15_9 hS23.1 ta0 c26
      obtain ⟨v28, c29⟩ : ∃ v, I17 a0 13 = v := ⟨_, rfl⟩
      obtain ⟨v30, c31⟩ : ∃ v, I17 a0 14 = v := ⟨_, rfl⟩
      (try rw [c26] at ov24)
      (try rw [c29] at ov24)
      (try rw [c31] at ov24)
      (try rw [c4] at ov24)
      (try rw [c8] at ov24)
      (try rw [c10] at ov24)
      refine tr_aload_n dX12_readAlp_63 hl0 ?_
      refine tr_getR dX12_readAlp_64 fl12_188 (kR15 hS23.1 ta0) d2 ?_
      obtain ⟨a32, d33, ta32⟩ := rf14_10 hW0 ta1
      refine tr_getR dX12_readAlp_67 fl12_260 (kR14 hS23.1 ta1) d33 ?_
      refine tr_iload_n dX12_readAlp_70 hl3 ?_
      refine tr_aload_n dX12_readAlp_71 hl0 ?_
      refine q_iconst dX12_readAlp_72 (by decide) ?_
      intro v34 h35
      refine q_bipush dX12_readAlp_73 (by decide +kernel) ?_
      intro v36 h37
      refine q_callVi hE (M' := mX12_readWhole) (as := [_, _]) dX12_readAlp_75 lk12_161 inX12_readWhole seX12_readWhole myX12_readWhole (by decide) ⟨by decide, by decide⟩ rfl (kR15 hS23.1 ta0) (Nat.le_of_ble_eq_true rfl) rfl rfl (by decide) (by decide) (k_X12_readWhole hS23.1 ta0) ?_
      rintro v42 cn' K' N' I38 R39 L40 ⟨rfl, rfl, rfl, rfl, g41, p43, w44, -⟩
      have hS45 := hS23.tr g41 (by decide +kernel) (by decide +kernel)
      have b46 : 0 ≤ v42.toInt ∧ v42.toInt ≤ 99 := by exact om_caf9e5f4 h35 h37 p43
      clear p43
      have ov47 := w44.over (by rw [c26]; exact om_394b70a2 ov24.1)
      obtain ⟨v48, c49⟩ : ∃ v, I38 a0 9 = v := ⟨_, rfl⟩
      have b50 := iv15_9 hS45.1 ta0 c49
      obtain ⟨v51, c52⟩ : ∃ v, I38 a0 13 = v := ⟨_, rfl⟩
      obtain ⟨v53, c54⟩ : ∃ v, I38 a0 14 = v := ⟨_, rfl⟩
      (try rw [c49] at ov47)
      (try rw [c52] at ov47)
      (try rw [c54] at ov47)
      (try rw [c26] at ov47)
      (try rw [c29] at ov47)
      (try rw [c31] at ov47)
      refine q_iast dX12_readAlp_78 (kR53 hS45.1 ta32) (ti_in (nR53 hS45.1 ta32) (by exact om_f1f39d84 hx3.2 hx3.1) (by exact om_8101a039 hx3.2 hx3.1)) hS45 ta32 (iokF rfl) rfl (by rfl) ?_
      intro I55 hS56 e58 f57
      have c59 : I55 a0 9 = v48 := (f57 _ _ (fun q => by have z := ta0; rw [q.1, ta32] at z; exact absurd z (by decide))).trans c49
      have c60 : I55 a0 13 = v51 := (f57 _ _ (fun q => by have z := ta0; rw [q.1, ta32] at z; exact absurd z (by decide))).trans c52
      have c61 : I55 a0 14 = v53 := (f57 _ _ (fun q => by have z := ta0; rw [q.1, ta32] at z; exact absurd z (by decide))).trans c54
      refine q_iincE dX12_readAlp_79 hl3 (by decide) (by decide) (by intro j1 j2; exact om_d90060b7 hx3.2 hx3.1) ?_
      intro v62 h63
      refine tr_goto 48 dX12_readAlp_82 (by decide) ?_
      refine sf_oA48_2 hE hZ hS56.1 (gB) ta0 (by exact om_ba72c3ab hx3.2 hx3.1 h63) (by (try rw [c59]); first | done | with_reducible assumption | exact om_394b70a2 ov47.1) ⟨_, d2⟩ hl0 hl1 hl2 rfl ?_
      rintro I64 R65 L66 ⟨g67, p68, p69, p70, rp71, -⟩
      obtain rfl : R0 = R65 := funext fun a => funext fun j => (g67.2.2 a j (wm_no rfl)).symm
      have hS72 := hS56.tr g67 (by decide +kernel) (by decide +kernel)
      obtain ⟨v73, c74⟩ : ∃ v, I64 a0 9 = v := ⟨_, rfl⟩
      have b75 := iv15_9 hS72.1 ta0 c74
      rw [c74] at p68
      obtain ⟨v76, c77⟩ : ∃ v, I64 a0 13 = v := ⟨_, rfl⟩
      rw [c77] at p69
      rw [c60] at p69
      obtain ⟨v78, c79⟩ : ∃ v, I64 a0 14 = v := ⟨_, rfl⟩
      rw [c79] at p70
      rw [c61] at p70
      exact hq _ _ _ ⟨hS72, (by (try rw [c74]); first | done | with_reducible assumption | omega), (by (try rw [c77]); (try rw [c8]); first | done | with_reducible assumption | exact om_1c22ab7e ov24.2.1 ov47.2.1 p69), (by (try rw [c79]); (try rw [c10]); first | done | with_reducible assumption | exact om_1c22ab7e ov24.2.2 ov47.2.2 p70), (fun b hb => (Option.some.inj (d2.symm.trans hb)) ▸ (((((FrM.rf (R := R0) (b := a1) (T := T)).st g20 (by decide +kernel)).st g41 (by decide +kernel)).pu f57 (by decide) (by decide) d33).tr (rp71 _ d2))), trivial⟩
def wif_oA48_0 : List Nat := [968, 969, 970, 971, 972, 973, 974, 3455]
def wrf_oA48_0 : List Nat := []
def wlf_oA48_0 : List Nat := []
set_option maxHeartbeats 4000000 in
theorem sf_oA48_0 {X : cz_X} (hE : cz_env X) {T : Nat → Nat} {cn : Nat} {K N : Nat → Nat} {I0 : cz_I} {R0 : cz_R} {L0 : cz_L} {Q : cz_Q} (hZ : cz_Z X mX12_readAlp Q) (hW0 : Wf T cn K N I0 R0 0) (gB : cz_B) {a0 : Nat} (ta0 : T a0 = 15) {x1 : Int32} {x2 : Int32} {x3 : Int32} (hx3 : 0 ≤ x3.toInt ∧ x3.toInt ≤ 0) (pre0 : (I0 a0 9).toInt = 5) (nn4 : ∃ b, R0 a0 4 = some b) {ls : Nat → Option Value} (hl0 : ls 0 = some (.ref a0)) (hl1 : ls 1 = some (.int x1)) (hl2 : ls 2 = some (.int x2)) (hl3 : ls 3 = some (.int x3)) (hq : ∀ (I' : cz_I) (R' : cz_R) (L' : cz_L), St T cn K N 0 wif_oA48_0 wrf_oA48_0 I0 R0 I' R' ∧ ((I' a0 9).toInt = 5) ∧ ((I' a0 13).toInt = (I0 a0 13).toInt) ∧ ((I' a0 14).toInt = (I0 a0 14).toInt) ∧ (∀ b, R0 a0 4 = some b → FrM R0 b T I0 I') ∧ True → Q none cn K N I' R' L') : Tr X mX12_readAlp 48 ls [] cn K N I0 R0 L0 0 0 := by
  have hS0 : St T cn K N 0 wif_oA48_0 wrf_oA48_0 I0 R0 I0 R0 := St.rf0 hW0
  have hL0 : LgS T wlf_oA48_0 L0 L0 := LgS.rf0
  obtain ⟨a1, d2⟩ := nn4
  have ta1 : T a1 = 14 := hW0.rsN ta0 rfl d2
  obtain ⟨v3, c4⟩ : ∃ v, I0 a0 9 = v := ⟨_, rfl⟩
  have b5 := iv15_9 hS0.1 ta0 c4
  have p6 := pre0
  rw [c4] at p6
  obtain ⟨v7, c8⟩ : ∃ v, I0 a0 13 = v := ⟨_, rfl⟩
  obtain ⟨v9, c10⟩ : ∃ v, I0 a0 14 = v := ⟨_, rfl⟩
  refine tr_iload_n dX12_readAlp_48 hl3 ?_
  refine q_iconst dX12_readAlp_49 (by decide) ?_
  intro v11 h12
  refine q_icmp_ge 85 dX12_readAlp_50 (by decide) (fun h13 => ?_) (fun h13 => ?_)
  · skip
    exfalso; exact om_6cc7e40b hx3.2 hx3.1 h12 h13
  · skip
    refine tr_iload_n dX12_readAlp_53 hl3 ?_
    refine q_if_le 63 dX12_readAlp_54 (by decide) (fun h14 => ?_) (fun h14 => ?_)
    · skip
      refine tr_aload_n dX12_readAlp_63 hl0 ?_
      refine tr_getR dX12_readAlp_64 fl12_188 (kR15 hS0.1 ta0) d2 ?_
      obtain ⟨a15, d16, ta15⟩ := rf14_10 hW0 ta1
      refine tr_getR dX12_readAlp_67 fl12_260 (kR14 hS0.1 ta1) d16 ?_
      refine tr_iload_n dX12_readAlp_70 hl3 ?_
      refine tr_aload_n dX12_readAlp_71 hl0 ?_
      refine q_iconst dX12_readAlp_72 (by decide) ?_
      intro v17 h18
      refine q_bipush dX12_readAlp_73 (by decide +kernel) ?_
      intro v19 h20
      refine q_callVi hE (M' := mX12_readWhole) (as := [_, _]) dX12_readAlp_75 lk12_161 inX12_readWhole seX12_readWhole myX12_readWhole (by decide) ⟨by decide, by decide⟩ rfl (kR15 hS0.1 ta0) (Nat.le_of_ble_eq_true rfl) rfl rfl (by decide) (by decide) (k_X12_readWhole hS0.1 ta0) ?_
      rintro v25 cn' K' N' I21 R22 L23 ⟨rfl, rfl, rfl, rfl, g24, p26, w27, -⟩
      have hS28 := hS0.tr g24 (by decide +kernel) (by decide +kernel)
      have b29 : 0 ≤ v25.toInt ∧ v25.toInt ≤ 99 := by exact om_caf9e5f4 h18 h20 p26
      clear p26
      have ov30 := w27.over (by rw [c4]; exact om_394b70a2 p6)
      obtain ⟨v31, c32⟩ : ∃ v, I21 a0 9 = v := ⟨_, rfl⟩
      have b33 := iv15_9 hS28.1 ta0 c32
      obtain ⟨v34, c35⟩ : ∃ v, I21 a0 13 = v := ⟨_, rfl⟩
      obtain ⟨v36, c37⟩ : ∃ v, I21 a0 14 = v := ⟨_, rfl⟩
      (try rw [c32] at ov30)
      (try rw [c35] at ov30)
      (try rw [c37] at ov30)
      (try rw [c4] at ov30)
      (try rw [c8] at ov30)
      (try rw [c10] at ov30)
      refine q_iast dX12_readAlp_78 (kR53 hS28.1 ta15) (ti_in (nR53 hS28.1 ta15) (by exact om_9b0b221f hx3.2 hx3.1) (by exact om_ca47c536 hx3.2 hx3.1)) hS28 ta15 (iokF rfl) rfl (by rfl) ?_
      intro I38 hS39 e41 f40
      have c42 : I38 a0 9 = v31 := (f40 _ _ (fun q => by have z := ta0; rw [q.1, ta15] at z; exact absurd z (by decide))).trans c32
      have c43 : I38 a0 13 = v34 := (f40 _ _ (fun q => by have z := ta0; rw [q.1, ta15] at z; exact absurd z (by decide))).trans c35
      have c44 : I38 a0 14 = v36 := (f40 _ _ (fun q => by have z := ta0; rw [q.1, ta15] at z; exact absurd z (by decide))).trans c37
      refine q_iincE dX12_readAlp_79 hl3 (by decide) (by decide) (by intro j1 j2; exact om_e3e1eb36 hx3.2 hx3.1) ?_
      intro v45 h46
      refine tr_goto 48 dX12_readAlp_82 (by decide) ?_
      refine sf_oA48_1 hE hZ hS39.1 (gB) ta0 (by exact om_30550a9e hx3.2 hx3.1 h46) (by (try rw [c42]); first | done | with_reducible assumption | exact om_394b70a2 ov30.1) ⟨_, d2⟩ hl0 hl1 hl2 rfl ?_
      rintro I47 R48 L49 ⟨g50, p51, p52, p53, rp54, -⟩
      obtain rfl : R0 = R48 := funext fun a => funext fun j => (g50.2.2 a j (wm_no rfl)).symm
      have hS55 := hS39.tr g50 (by decide +kernel) (by decide +kernel)
      obtain ⟨v56, c57⟩ : ∃ v, I47 a0 9 = v := ⟨_, rfl⟩
      have b58 := iv15_9 hS55.1 ta0 c57
      rw [c57] at p51
      obtain ⟨v59, c60⟩ : ∃ v, I47 a0 13 = v := ⟨_, rfl⟩
      rw [c60] at p52
      rw [c43] at p52
      obtain ⟨v61, c62⟩ : ∃ v, I47 a0 14 = v := ⟨_, rfl⟩
      rw [c62] at p53
      rw [c44] at p53
      exact hq _ _ _ ⟨hS55, (by (try rw [c57]); first | done | with_reducible assumption | omega), (by (try rw [c60]); (try rw [c8]); first | done | with_reducible assumption | exact om_9fa72578 ov30.2.1 p52), (by (try rw [c62]); (try rw [c10]); first | done | with_reducible assumption | exact om_9fa72578 ov30.2.2 p53), (fun b hb => (Option.some.inj (d2.symm.trans hb)) ▸ ((((FrM.rf (R := R0) (b := a1) (T := T)).st g24 (by decide +kernel)).pu f40 (by decide) (by decide) d16).tr (rp54 _ d2))), trivial⟩
    · skip
      exfalso; exact om_fd047fc8 hx3.2 hx3.1 h14
def wif_oA40 : List Nat := [968, 969, 970, 971, 972, 973, 974, 3455]
def wrf_oA40 : List Nat := []
def wlf_oA40 : List Nat := []
set_option maxHeartbeats 4000000 in
theorem sf_oA40 {X : cz_X} (hE : cz_env X) {T : Nat → Nat} {cn : Nat} {K N : Nat → Nat} {I0 : cz_I} {R0 : cz_R} {L0 : cz_L} {Q : cz_Q} (hZ : cz_Z X mX12_readAlp Q) (hW0 : Wf T cn K N I0 R0 0) (gB : cz_B) {a0 : Nat} (ta0 : T a0 = 15) {x1 : Int32} {x2 : Int32} (pre0 : (I0 a0 9).toInt = 5) (nn4 : ∃ b, R0 a0 4 = some b) {ls : Nat → Option Value} (hl0 : ls 0 = some (.ref a0)) (hl1 : ls 1 = some (.int x1)) (hl2 : ls 2 = some (.int x2)) (hq : ∀ (I' : cz_I) (R' : cz_R) (L' : cz_L), St T cn K N 0 wif_oA40 wrf_oA40 I0 R0 I' R' ∧ ((I' a0 9).toInt = 5) ∧ ((I' a0 13).toInt = (I0 a0 13).toInt) ∧ ((I' a0 14).toInt = (I0 a0 14).toInt) ∧ (∀ b, R0 a0 4 = some b → FrM R0 b T I0 I') ∧ True → Q none cn K N I' R' L') : Tr X mX12_readAlp 40 ls [] cn K N I0 R0 L0 0 0 := by
  have hS0 : St T cn K N 0 wif_oA40 wrf_oA40 I0 R0 I0 R0 := St.rf0 hW0
  have hL0 : LgS T wlf_oA40 L0 L0 := LgS.rf0
  obtain ⟨a1, d2⟩ := nn4
  have ta1 : T a1 = 14 := hW0.rsN ta0 rfl d2
  obtain ⟨v3, c4⟩ : ∃ v, I0 a0 9 = v := ⟨_, rfl⟩
  have b5 := iv15_9 hS0.1 ta0 c4
  have p6 := pre0
  rw [c4] at p6
  obtain ⟨v7, c8⟩ : ∃ v, I0 a0 13 = v := ⟨_, rfl⟩
  obtain ⟨v9, c10⟩ : ∃ v, I0 a0 14 = v := ⟨_, rfl⟩
  refine tr_aload_n dX12_readAlp_40 hl0 ?_
  refine tr_ldcS dX12_readAlp_41 ld12_255 ?_
  refine q_callVv hE (M' := mX12_needs) (as := [_]) dX12_readAlp_43 lk12_157 inX12_needs seX12_needs myX12_needs (by decide) ⟨by decide, by decide⟩ rfl (kR15 hS0.1 ta0) (Nat.le_of_ble_eq_true rfl) rfl rfl (by decide) (by decide) (k_X12_needs hS0.1 ta0 (by decide)) ?_
  rintro cn' K' N' I11 R12 L13 ⟨rfl, rfl, rfl, rfl, g14, w16, -⟩
  have hS17 := hS0.tr g14 (by decide +kernel) (by decide +kernel)
  have ov18 := w16.over (by rw [c4]; exact om_394b70a2 p6)
  obtain ⟨v19, c20⟩ : ∃ v, I11 a0 9 = v := ⟨_, rfl⟩
  have b21 := iv15_9 hS17.1 ta0 c20
  obtain ⟨v22, c23⟩ : ∃ v, I11 a0 13 = v := ⟨_, rfl⟩
  obtain ⟨v24, c25⟩ : ∃ v, I11 a0 14 = v := ⟨_, rfl⟩
  (try rw [c20] at ov18)
  (try rw [c23] at ov18)
  (try rw [c25] at ov18)
  (try rw [c4] at ov18)
  (try rw [c8] at ov18)
  (try rw [c10] at ov18)
  refine q_iconst dX12_readAlp_46 (by decide) ?_
  intro v26 h27
  refine tr_istore_n dX12_readAlp_47 (by decide) (by decide) ?_
  refine sf_oA48_0 hE hZ hS17.1 (gB) ta0 (by exact om_615c7989 h27) (by (try rw [c20]); first | done | with_reducible assumption | exact om_394b70a2 ov18.1) ⟨_, d2⟩ hl0 hl1 hl2 rfl ?_
  rintro I28 R29 L30 ⟨g31, p32, p33, p34, rp35, -⟩
  obtain rfl : R0 = R29 := funext fun a => funext fun j => (g31.2.2 a j (wm_no rfl)).symm
  have hS36 := hS17.tr g31 (by decide +kernel) (by decide +kernel)
  obtain ⟨v37, c38⟩ : ∃ v, I28 a0 9 = v := ⟨_, rfl⟩
  have b39 := iv15_9 hS36.1 ta0 c38
  rw [c38] at p32
  obtain ⟨v40, c41⟩ : ∃ v, I28 a0 13 = v := ⟨_, rfl⟩
  rw [c41] at p33
  rw [c23] at p33
  obtain ⟨v42, c43⟩ : ∃ v, I28 a0 14 = v := ⟨_, rfl⟩
  rw [c43] at p34
  rw [c25] at p34
  exact hq _ _ _ ⟨hS36, (by (try rw [c38]); first | done | with_reducible assumption | omega), (by (try rw [c41]); (try rw [c8]); first | done | with_reducible assumption | exact om_9fa72578 ov18.2.1 p33), (by (try rw [c43]); (try rw [c10]); first | done | with_reducible assumption | exact om_9fa72578 ov18.2.2 p34), (fun b hb => (Option.some.inj (d2.symm.trans hb)) ▸ (((FrM.rf (R := R0) (b := a1) (T := T)).st g14 (by decide +kernel)).tr (rp35 _ d2))), trivial⟩
def wif_oA31 : List Nat := [968, 969, 970, 971, 972, 973, 974, 3455]
def wrf_oA31 : List Nat := []
def wlf_oA31 : List Nat := []
set_option maxHeartbeats 4000000 in
theorem sf_oA31 {X : cz_X} (hE : cz_env X) {T : Nat → Nat} {cn : Nat} {K N : Nat → Nat} {I0 : cz_I} {R0 : cz_R} {L0 : cz_L} {Q : cz_Q} (hZ : cz_Z X mX12_readAlp Q) (hW0 : Wf T cn K N I0 R0 0) (gB : cz_B) {a0 : Nat} (ta0 : T a0 = 15) {x1 : Int32} (pre0 : (I0 a0 9).toInt = 5) (nn4 : ∃ b, R0 a0 4 = some b) {ls : Nat → Option Value} (hl0 : ls 0 = some (.ref a0)) (hl1 : ls 1 = some (.int x1)) (hq : ∀ (I' : cz_I) (R' : cz_R) (L' : cz_L), St T cn K N 0 wif_oA31 wrf_oA31 I0 R0 I' R' ∧ ((I' a0 9).toInt = 5) ∧ ((I' a0 13).toInt = (I0 a0 13).toInt) ∧ ((I' a0 14).toInt = (I0 a0 14).toInt) ∧ (∀ b, R0 a0 4 = some b → FrM R0 b T I0 I') ∧ True → Q none cn K N I' R' L') : Tr X mX12_readAlp 31 ls [] cn K N I0 R0 L0 0 0 := by
  have hS0 : St T cn K N 0 wif_oA31 wrf_oA31 I0 R0 I0 R0 := St.rf0 hW0
  have hL0 : LgS T wlf_oA31 L0 L0 := LgS.rf0
  obtain ⟨a1, d2⟩ := nn4
  have ta1 : T a1 = 14 := hW0.rsN ta0 rfl d2
  obtain ⟨v3, c4⟩ : ∃ v, I0 a0 9 = v := ⟨_, rfl⟩
  have b5 := iv15_9 hS0.1 ta0 c4
  have p6 := pre0
  rw [c4] at p6
  obtain ⟨v7, c8⟩ : ∃ v, I0 a0 13 = v := ⟨_, rfl⟩
  obtain ⟨v9, c10⟩ : ∃ v, I0 a0 14 = v := ⟨_, rfl⟩
  refine tr_aload_n dX12_readAlp_31 hl0 ?_
  refine tr_ldcS dX12_readAlp_32 ld12_253 ?_
  refine q_iconst dX12_readAlp_34 (by decide) ?_
  intro v11 h12
  refine q_iconst dX12_readAlp_35 (by decide) ?_
  intro v13 h14
  refine q_callVi hE (M' := mX12_readPart) (as := [_, _, _]) dX12_readAlp_36 lk12_249 inX12_readPart seX12_readPart myX12_readPart (by decide) ⟨by decide, by decide⟩ rfl (kR15 hS0.1 ta0) (Nat.le_of_ble_eq_true rfl) rfl rfl (by decide) (by decide) (k_X12_readPart hS0.1 ta0 (by decide)) ?_
  rintro v19 cn' K' N' I15 R16 L17 ⟨rfl, rfl, rfl, rfl, g18, p20, w21, -⟩
  have hS22 := hS0.tr g18 (by decide +kernel) (by decide +kernel)
  have b23 : 1 ≤ v19.toInt ∧ v19.toInt ≤ 4 := by exact om_8c91ba7a h12 h14 p20
  clear p20
  have ov24 := w21.over (by rw [c4]; exact om_394b70a2 p6)
  obtain ⟨v25, c26⟩ : ∃ v, I15 a0 9 = v := ⟨_, rfl⟩
  have b27 := iv15_9 hS22.1 ta0 c26
  obtain ⟨v28, c29⟩ : ∃ v, I15 a0 13 = v := ⟨_, rfl⟩
  obtain ⟨v30, c31⟩ : ∃ v, I15 a0 14 = v := ⟨_, rfl⟩
  (try rw [c26] at ov24)
  (try rw [c29] at ov24)
  (try rw [c31] at ov24)
  (try rw [c4] at ov24)
  (try rw [c8] at ov24)
  (try rw [c10] at ov24)
  refine tr_istore_n dX12_readAlp_39 (by decide) (by decide) ?_
  refine sf_oA40 hE hZ hS22.1 (gB) ta0 (by (try rw [c26]); first | done | with_reducible assumption | exact om_394b70a2 ov24.1) ⟨_, d2⟩ hl0 hl1 rfl ?_
  rintro I32 R33 L34 ⟨g35, p36, p37, p38, rp39, -⟩
  obtain rfl : R0 = R33 := funext fun a => funext fun j => (g35.2.2 a j (wm_no rfl)).symm
  have hS40 := hS22.tr g35 (by decide +kernel) (by decide +kernel)
  obtain ⟨v41, c42⟩ : ∃ v, I32 a0 9 = v := ⟨_, rfl⟩
  have b43 := iv15_9 hS40.1 ta0 c42
  rw [c42] at p36
  obtain ⟨v44, c45⟩ : ∃ v, I32 a0 13 = v := ⟨_, rfl⟩
  rw [c45] at p37
  rw [c29] at p37
  obtain ⟨v46, c47⟩ : ∃ v, I32 a0 14 = v := ⟨_, rfl⟩
  rw [c47] at p38
  rw [c31] at p38
  exact hq _ _ _ ⟨hS40, (by (try rw [c42]); first | done | with_reducible assumption | omega), (by (try rw [c45]); (try rw [c8]); first | done | with_reducible assumption | exact om_9fa72578 ov24.2.1 p37), (by (try rw [c47]); (try rw [c10]); first | done | with_reducible assumption | exact om_9fa72578 ov24.2.2 p38), (fun b hb => (Option.some.inj (d2.symm.trans hb)) ▸ (((FrM.rf (R := R0) (b := a1) (T := T)).st g18 (by decide +kernel)).tr (rp39 _ d2))), trivial⟩
def wif_oA19 : List Nat := [968, 969, 970, 971, 972, 973, 974, 3455]
def wrf_oA19 : List Nat := []
def wlf_oA19 : List Nat := []
set_option maxHeartbeats 4000000 in
theorem sf_oA19 {X : cz_X} (hE : cz_env X) {T : Nat → Nat} {cn : Nat} {K N : Nat → Nat} {I0 : cz_I} {R0 : cz_R} {L0 : cz_L} {Q : cz_Q} (hZ : cz_Z X mX12_readAlp Q) (hW0 : Wf T cn K N I0 R0 0) (gB : cz_B) {a0 : Nat} (ta0 : T a0 = 15) (pre0 : (I0 a0 9).toInt = 5) (nn4 : ∃ b, R0 a0 4 = some b) {ls : Nat → Option Value} (hl0 : ls 0 = some (.ref a0)) (hq : ∀ (I' : cz_I) (R' : cz_R) (L' : cz_L), St T cn K N 0 wif_oA19 wrf_oA19 I0 R0 I' R' ∧ ((I' a0 9).toInt = 5) ∧ ((I' a0 13).toInt = (I0 a0 13).toInt) ∧ ((I' a0 14).toInt = (I0 a0 14).toInt) ∧ (∀ b, R0 a0 4 = some b → FrM R0 b T I0 I') ∧ True → Q none cn K N I' R' L') : Tr X mX12_readAlp 19 ls [] cn K N I0 R0 L0 0 0 := by
  have hS0 : St T cn K N 0 wif_oA19 wrf_oA19 I0 R0 I0 R0 := St.rf0 hW0
  have hL0 : LgS T wlf_oA19 L0 L0 := LgS.rf0
  obtain ⟨a1, d2⟩ := nn4
  have ta1 : T a1 = 14 := hW0.rsN ta0 rfl d2
  obtain ⟨v3, c4⟩ : ∃ v, I0 a0 9 = v := ⟨_, rfl⟩
  have b5 := iv15_9 hS0.1 ta0 c4
  have p6 := pre0
  rw [c4] at p6
  obtain ⟨v7, c8⟩ : ∃ v, I0 a0 13 = v := ⟨_, rfl⟩
  obtain ⟨v9, c10⟩ : ∃ v, I0 a0 14 = v := ⟨_, rfl⟩
  refine tr_aload_n dX12_readAlp_19 hl0 ?_
  refine tr_ldcS dX12_readAlp_20 ld12_248 ?_
  refine q_bipush dX12_readAlp_22 (by decide +kernel) ?_
  intro v11 h12
  refine q_sipush dX12_readAlp_24 (by decide +kernel) ?_
  intro v13 h14
  refine q_callVi hE (M' := mX12_readPart) (as := [_, _, _]) dX12_readAlp_27 lk12_249 inX12_readPart seX12_readPart myX12_readPart (by decide) ⟨by decide, by decide⟩ rfl (kR15 hS0.1 ta0) (Nat.le_of_ble_eq_true rfl) rfl rfl (by decide) (by decide) (k_X12_readPart hS0.1 ta0 (by decide)) ?_
  rintro v19 cn' K' N' I15 R16 L17 ⟨rfl, rfl, rfl, rfl, g18, p20, w21, -⟩
  have hS22 := hS0.tr g18 (by decide +kernel) (by decide +kernel)
  have b23 : 10 ≤ v19.toInt ∧ v19.toInt ≤ 240 := by exact om_6202203d h12 h14 p20
  clear p20
  have ov24 := w21.over (by rw [c4]; exact om_394b70a2 p6)
  obtain ⟨v25, c26⟩ : ∃ v, I15 a0 9 = v := ⟨_, rfl⟩
  have b27 := iv15_9 hS22.1 ta0 c26
  obtain ⟨v28, c29⟩ : ∃ v, I15 a0 13 = v := ⟨_, rfl⟩
  obtain ⟨v30, c31⟩ : ∃ v, I15 a0 14 = v := ⟨_, rfl⟩
  (try rw [c26] at ov24)
  (try rw [c29] at ov24)
  (try rw [c31] at ov24)
  (try rw [c4] at ov24)
  (try rw [c8] at ov24)
  (try rw [c10] at ov24)
  refine tr_istore_n dX12_readAlp_30 (by decide) (by decide) ?_
  refine sf_oA31 hE hZ hS22.1 (gB) ta0 (by (try rw [c26]); first | done | with_reducible assumption | exact om_394b70a2 ov24.1) ⟨_, d2⟩ hl0 rfl ?_
  rintro I32 R33 L34 ⟨g35, p36, p37, p38, rp39, -⟩
  obtain rfl : R0 = R33 := funext fun a => funext fun j => (g35.2.2 a j (wm_no rfl)).symm
  have hS40 := hS22.tr g35 (by decide +kernel) (by decide +kernel)
  obtain ⟨v41, c42⟩ : ∃ v, I32 a0 9 = v := ⟨_, rfl⟩
  have b43 := iv15_9 hS40.1 ta0 c42
  rw [c42] at p36
  obtain ⟨v44, c45⟩ : ∃ v, I32 a0 13 = v := ⟨_, rfl⟩
  rw [c45] at p37
  rw [c29] at p37
  obtain ⟨v46, c47⟩ : ∃ v, I32 a0 14 = v := ⟨_, rfl⟩
  rw [c47] at p38
  rw [c31] at p38
  exact hq _ _ _ ⟨hS40, (by (try rw [c42]); first | done | with_reducible assumption | omega), (by (try rw [c45]); (try rw [c8]); first | done | with_reducible assumption | exact om_9fa72578 ov24.2.1 p37), (by (try rw [c47]); (try rw [c10]); first | done | with_reducible assumption | exact om_9fa72578 ov24.2.2 p38), (fun b hb => (Option.some.inj (d2.symm.trans hb)) ▸ (((FrM.rf (R := R0) (b := a1) (T := T)).st g18 (by decide +kernel)).tr (rp39 _ d2))), trivial⟩
def wif_oA15 : List Nat := [968, 969, 970, 971, 972, 973, 974, 3455]
def wrf_oA15 : List Nat := []
def wlf_oA15 : List Nat := []
set_option maxHeartbeats 4000000 in
theorem sf_oA15 {X : cz_X} (hE : cz_env X) {T : Nat → Nat} {cn : Nat} {K N : Nat → Nat} {I0 : cz_I} {R0 : cz_R} {L0 : cz_L} {Q : cz_Q} (hZ : cz_Z X mX12_readAlp Q) (hW0 : Wf T cn K N I0 R0 0) (gB : cz_B) {a0 : Nat} (ta0 : T a0 = 15) (pre0 : (I0 a0 9).toInt = 5) (nn4 : ∃ b, R0 a0 4 = some b) {ls : Nat → Option Value} (hl0 : ls 0 = some (.ref a0)) (hq : ∀ (I' : cz_I) (R' : cz_R) (L' : cz_L), St T cn K N 0 wif_oA15 wrf_oA15 I0 R0 I' R' ∧ ((I' a0 9).toInt = 5) ∧ ((I' a0 13).toInt = (I0 a0 13).toInt) ∧ ((I' a0 14).toInt = (I0 a0 14).toInt) ∧ (∀ b, R0 a0 4 = some b → FrM R0 b T I0 I') ∧ True → Q none cn K N I' R' L') : Tr X mX12_readAlp 15 ls [] cn K N I0 R0 L0 0 0 := by
  have hS0 : St T cn K N 0 wif_oA15 wrf_oA15 I0 R0 I0 R0 := St.rf0 hW0
  have hL0 : LgS T wlf_oA15 L0 L0 := LgS.rf0
  obtain ⟨a1, d2⟩ := nn4
  have ta1 : T a1 = 14 := hW0.rsN ta0 rfl d2
  obtain ⟨v3, c4⟩ : ∃ v, I0 a0 9 = v := ⟨_, rfl⟩
  have b5 := iv15_9 hS0.1 ta0 c4
  have p6 := pre0
  rw [c4] at p6
  obtain ⟨v7, c8⟩ : ∃ v, I0 a0 13 = v := ⟨_, rfl⟩
  obtain ⟨v9, c10⟩ : ∃ v, I0 a0 14 = v := ⟨_, rfl⟩
  refine tr_aload_n dX12_readAlp_15 hl0 ?_
  obtain ⟨v11, c12⟩ : ∃ v, I0 a0 8 = v := ⟨_, rfl⟩
  have b13 := iv15_8 hS0.1 ta0 c12
  refine q_callVv hE (M' := mX12_goesOn) (as := []) dX12_readAlp_16 lk12_142 inX12_goesOn seX12_goesOn myX12_goesOn (by decide) ⟨by decide, by decide⟩ rfl (kR15 hS0.1 ta0) (Nat.le_of_ble_eq_true rfl) rfl rfl (by decide) (by decide) (k_X12_goesOn hS0.1 ta0) ?_
  rintro cn' K' N' I14 R15 L16 ⟨rfl, rfl, rfl, rfl, g17, p19, p20, p21, w22, -⟩
  have hS23 := hS0.tr g17 (by decide +kernel) (by decide +kernel)
  have c24 : I14 a0 13 = v7 := (g17.cell ta0 (by decide +kernel)).trans c8
  have c25 : I14 a0 14 = v9 := (g17.cell ta0 (by decide +kernel)).trans c10
  obtain ⟨v26, c27⟩ : ∃ v, I14 a0 9 = v := ⟨_, rfl⟩
  have b28 := iv15_9 hS23.1 ta0 c27
  rw [c4] at p19
  rw [c27] at p19
  rw [c4] at p20
  rw [c27] at p20
  obtain ⟨v29, c30⟩ : ∃ v, I14 a0 8 = v := ⟨_, rfl⟩
  have b31 := iv15_8 hS23.1 ta0 c30
  rw [c30] at p21
  rw [c12] at p21
  rw [c24] at p21
  rw [c8] at p21
  have ov32 := w22.over (by rw [c4]; exact om_394b70a2 p6)
  obtain ⟨v33, c34⟩ : ∃ v, I14 a0 9 = v := ⟨_, rfl⟩
  have b35 := iv15_9 hS23.1 ta0 c34
  obtain ⟨v36, c37⟩ : ∃ v, I14 a0 13 = v := ⟨_, rfl⟩
  obtain ⟨v38, c39⟩ : ∃ v, I14 a0 14 = v := ⟨_, rfl⟩
  (try rw [c34] at ov32)
  (try rw [c37] at ov32)
  (try rw [c39] at ov32)
  (try rw [c4] at ov32)
  (try rw [c8] at ov32)
  (try rw [c10] at ov32)
  refine sf_oA19 hE hZ hS23.1 (gB) ta0 (by (try rw [c34]); first | done | with_reducible assumption | exact om_394b70a2 ov32.1) ⟨_, d2⟩ hl0 ?_
  rintro I40 R41 L42 ⟨g43, p44, p45, p46, rp47, -⟩
  obtain rfl : R0 = R41 := funext fun a => funext fun j => (g43.2.2 a j (wm_no rfl)).symm
  have hS48 := hS23.tr g43 (by decide +kernel) (by decide +kernel)
  obtain ⟨v49, c50⟩ : ∃ v, I40 a0 9 = v := ⟨_, rfl⟩
  have b51 := iv15_9 hS48.1 ta0 c50
  rw [c50] at p44
  obtain ⟨v52, c53⟩ : ∃ v, I40 a0 13 = v := ⟨_, rfl⟩
  rw [c53] at p45
  rw [c37] at p45
  obtain ⟨v54, c55⟩ : ∃ v, I40 a0 14 = v := ⟨_, rfl⟩
  rw [c55] at p46
  rw [c39] at p46
  exact hq _ _ _ ⟨hS48, (by (try rw [c50]); first | done | with_reducible assumption | omega), (by (try rw [c53]); (try rw [c8]); first | done | with_reducible assumption | exact om_9fa72578 ov32.2.1 p45), (by (try rw [c55]); (try rw [c10]); first | done | with_reducible assumption | exact om_9fa72578 ov32.2.2 p46), (fun b hb => (Option.some.inj (d2.symm.trans hb)) ▸ (((FrM.rf (R := R0) (b := a1) (T := T)).st g17 (by decide +kernel)).tr (rp47 _ d2))), trivial⟩
def wik_X12_readAlp : List Nat := [896, 897, 968, 969, 970, 971, 972, 973, 974, 3455]
def wrk_X12_readAlp : List Nat := []
def wlk_X12_readAlp : List Nat := [975]
set_option maxHeartbeats 4000000 in
theorem fk_X12_readAlp {l : Launch} {T : Nat → Nat} {cn : Nat} {K N : Nat → Nat} {I0 : cz_I} {R0 : cz_R} {L0 : cz_L} (hW0 : Wf T cn K N I0 R0 0) (gB : cz_B) (gs : Int) (gQ : Nat → Int) {a0 : Nat} (ta0 : T a0 = 15) (hT : ∀ t, R0 a0 5 = some t → Tx I0 t gB) (hN : ∀ b, R0 a0 4 = some b → NmM I0 R0 L0 b gQ) (pre0 : (I0 a0 9).toInt = (tkM gB gs)) (pre1 : (I0 a0 9).toInt ≤ 4) (pre2 : (I0 a0 10).toInt = (tkS gB gs)) (pre3 : (I0 a0 11).toInt = (tkG gB gs)) (pre4 : (AtW ((tkK gB gs)) ((L0 a0 15).toInt) ((tkW gB gs)))) (pre5 : (AtV ((tkK gB gs)) ((I0 a0 12).toInt) ((tkV gB gs)))) (pre6 : (AtN ((tkK gB gs)) ((I0 a0 8).toInt) ((tkN gB gs)))) (pre7 : (I0 a0 7).toInt = (gB.2)) (pre8 : ∀ b1, R0 a0 4 = some b1 → (I0 b1 0).toInt = (gQ 0)) (pre9 : ∀ b1, R0 a0 4 = some b1 → (I0 b1 1).toInt = (gQ 1)) (pre10 : ∀ b1, R0 a0 4 = some b1 → (I0 b1 2).toInt = (gQ 2)) (pre11 : ∀ b1, R0 a0 4 = some b1 → (I0 b1 3).toInt = (gQ 3)) (pre12 : ∀ b1, R0 a0 4 = some b1 → (I0 b1 4).toInt = (gQ 4)) (pre13 : ∀ b1, R0 a0 4 = some b1 → (I0 b1 5).toInt = (gQ 5)) (pre14 : ∀ b1, R0 a0 4 = some b1 → (I0 b1 6).toInt = (gQ 6)) (pre15 : ∀ b1, R0 a0 4 = some b1 → (I0 b1 9).toInt = (gQ 8)) (pre16 : (Q7M ((gQ 0)) ((gQ 7)))) (pre17 : (tkK gB gs) = 1) (pre18 : (srt gB gs) = 10) (nn4 : ∃ b, R0 a0 4 = some b) : ConE l mX12_readAlp [.ref a0] cn K N I0 R0 L0 (ca_v (fun cn' K' N' I' R' L' => cn = cn' ∧ K = K' ∧ N = N' ∧ R0 = R' ∧ St T cn K N 0 wik_X12_readAlp wrk_X12_readAlp I0 R0 I' R0 ∧ (∀ b, R0 a0 4 = some b → FrM R0 b T I0 I') ∧ (∀ dr, R0 a0 4 = some dr → FrO 14 dr T I0 I') ∧ ((((lnF gB gQ gs) = 0) ∧ (∀ b1, R0 a0 4 = some b1 → (I' b1 0).toInt = (lnQ gB gQ gs 0)) ∧ (∀ b1, R0 a0 4 = some b1 → (I' b1 1).toInt = (lnQ gB gQ gs 1)) ∧ (∀ b1, R0 a0 4 = some b1 → (I' b1 2).toInt = (lnQ gB gQ gs 2)) ∧ (∀ b1, R0 a0 4 = some b1 → (I' b1 3).toInt = (lnQ gB gQ gs 3)) ∧ (∀ b1, R0 a0 4 = some b1 → (I' b1 4).toInt = (lnQ gB gQ gs 4)) ∧ (∀ b1, R0 a0 4 = some b1 → (I' b1 5).toInt = (lnQ gB gQ gs 5)) ∧ (∀ b1, R0 a0 4 = some b1 → (I' b1 6).toInt = (lnQ gB gQ gs 6)) ∧ (∀ b1, R0 a0 4 = some b1 → (I' b1 9).toInt = (lnQ gB gQ gs 8)) ∧ ((I' a0 13).toInt = (I0 a0 13).toInt) ∧ ((I' a0 9).toInt = (tkM gB (lnS gB gQ gs))) ∧ ((I' a0 9).toInt ≤ 4) ∧ ((I' a0 10).toInt = (tkS gB (lnS gB gQ gs))) ∧ ((I' a0 11).toInt = (tkG gB (lnS gB gQ gs))) ∧ ((AtW ((tkK gB (lnS gB gQ gs))) ((L' a0 15).toInt) ((tkW gB (lnS gB gQ gs))))) ∧ ((AtV ((tkK gB (lnS gB gQ gs))) ((I' a0 12).toInt) ((tkV gB (lnS gB gQ gs))))) ∧ ((AtN ((tkK gB (lnS gB gQ gs))) ((I' a0 8).toInt) ((tkN gB (lnS gB gQ gs))))) ∧ LgS T wlk_X12_readAlp L0 L' ∧ (∀ b, R0 a0 4 = some b → NmM I' R0 L' b (lnQ gB gQ gs)) ∧ (∀ E b, R0 a0 4 = some b → AlM I0 R0 b gQ E → AlM I' R0 b (lnQ gB gQ gs) (lnE gB gQ gs E)) ∧ True) ∨ (((lnF gB gQ gs) ≠ 0) ∧ ((I' a0 9).toInt = 5) ∧ ((I' a0 13).toInt = (lnF gB gQ gs)) ∧ ((I' a0 14).toInt = (lnP gB gQ gs)) ∧ True)) ∧ True)) := by
  refine ConE.of (by decide +kernel) rfl (Nat.le_of_ble_eq_true rfl) rfl (fun X hX hZ hE => ?_)
  subst hX
  have hS0 : St T cn K N 0 wik_X12_readAlp wrk_X12_readAlp I0 R0 I0 R0 := St.rf0 hW0
  have hL0 : LgS T wlk_X12_readAlp L0 L0 := LgS.rf0
  obtain ⟨a1, d2⟩ := nn4
  have ta1 : T a1 = 14 := hW0.rsN ta0 rfl d2
  obtain ⟨v3, c4⟩ : ∃ v, I0 a0 9 = v := ⟨_, rfl⟩
  have b5 := iv15_9 hS0.1 ta0 c4
  have p6 := pre0
  rw [c4] at p6
  have p7 := pre1
  rw [c4] at p7
  obtain ⟨v8, c9⟩ : ∃ v, I0 a0 10 = v := ⟨_, rfl⟩
  have b10 := iv15_10 hS0.1 ta0 c9
  have p11 := pre2
  rw [c9] at p11
  obtain ⟨v12, c13⟩ : ∃ v, I0 a0 11 = v := ⟨_, rfl⟩
  have p14 := pre3
  rw [c13] at p14
  obtain ⟨y15, c16⟩ : ∃ v, L0 a0 15 = v := ⟨_, rfl⟩
  have p17 := pre4
  rw [c16] at p17
  obtain ⟨v18, c19⟩ : ∃ v, I0 a0 12 = v := ⟨_, rfl⟩
  have p20 := pre5
  rw [c19] at p20
  obtain ⟨v21, c22⟩ : ∃ v, I0 a0 8 = v := ⟨_, rfl⟩
  have b23 := iv15_8 hS0.1 ta0 c22
  have p24 := pre6
  rw [c22] at p24
  obtain ⟨v25, c26⟩ : ∃ v, I0 a0 7 = v := ⟨_, rfl⟩
  have b27 := iv15_7 hW0 ta0 c26
  have p28 := pre7
  rw [c26] at p28
  obtain ⟨v29, c30⟩ : ∃ v, I0 a1 0 = v := ⟨_, rfl⟩
  have b31 := iv14_0 hS0.1 ta1 c30
  have p32 := pre8 _ d2
  rw [c30] at p32
  obtain ⟨v33, c34⟩ : ∃ v, I0 a1 1 = v := ⟨_, rfl⟩
  have b35 := iv14_1 hS0.1 ta1 c34
  have p36 := pre9 _ d2
  rw [c34] at p36
  obtain ⟨v37, c38⟩ : ∃ v, I0 a1 2 = v := ⟨_, rfl⟩
  have b39 := iv14_2 hW0 ta1 c38
  have p40 := pre10 _ d2
  rw [c38] at p40
  obtain ⟨v41, c42⟩ : ∃ v, I0 a1 3 = v := ⟨_, rfl⟩
  have b43 := iv14_3 hW0 ta1 c42
  have p44 := pre11 _ d2
  rw [c42] at p44
  obtain ⟨v45, c46⟩ : ∃ v, I0 a1 4 = v := ⟨_, rfl⟩
  have b47 := iv14_4 hW0 ta1 c46
  have p48 := pre12 _ d2
  rw [c46] at p48
  obtain ⟨v49, c50⟩ : ∃ v, I0 a1 5 = v := ⟨_, rfl⟩
  have b51 := iv14_5 hW0 ta1 c50
  have p52 := pre13 _ d2
  rw [c50] at p52
  obtain ⟨v53, c54⟩ : ∃ v, I0 a1 6 = v := ⟨_, rfl⟩
  have b55 := iv14_6 hW0 ta1 c54
  have p56 := pre14 _ d2
  rw [c54] at p56
  obtain ⟨v57, c58⟩ : ∃ v, I0 a1 9 = v := ⟨_, rfl⟩
  have b59 := iv14_9 hW0 ta1 c58
  have p60 := pre15 _ d2
  rw [c58] at p60
  have p61 := pre16
  have p62 := pre17
  have p63 := pre18
  obtain ⟨v64, c65⟩ : ∃ v, I0 a0 13 = v := ⟨_, rfl⟩
  have hM0 := hN _ d2
  have hO0 : FrO 14 a1 T I0 I0 := FrO.rf
  obtain ⟨a66, d67, ta66⟩ := rf14_10 hW0 ta1
  have hF := lnF_ch gB gQ gs
  have hP := lnP_ch gB gQ gs
  replace hF := hF.neg (by exact om_c465422e pre18)
  replace hP := hP.neg (by exact om_c465422e pre18)
  refine tr_aload_n dX12_readAlp_0 rfl ?_
  refine tr_getR dX12_readAlp_1 fl12_188 (kR15 hS0.1 ta0) d2 ?_
  refine q_getI dX12_readAlp_4 fl12_192 (kR14 hS0.1 ta1) c30 ?_
  refine q_if_le 15 dX12_readAlp_7 (by decide) (fun h68 => ?_) (fun h68 => ?_)
  · skip
    have p69 := p61
    unfold Q7M at p69
    replace hF := hF.neg (by exact om_03959a57 pre18 b31.2 b31.1 p32 h68 p69)
    replace hP := hP.neg (by exact om_03959a57 pre18 b31.2 b31.1 p32 h68 p69)
    replace hF := hF.neg (by exact om_a2747490 pre18)
    replace hP := hP.neg (by exact om_a2747490 pre18)
    replace hF := hF.neg (by exact om_76457f53 pre18)
    replace hP := hP.neg (by exact om_76457f53 pre18)
    refine tr_aload_n dX12_readAlp_15 rfl ?_
    have p70 := p24 (by exact om_e0d38eff pre17)
    refine q_callVv hE (M' := mX12_goesOn) (as := []) dX12_readAlp_16 lk12_142 inX12_goesOn seX12_goesOn myX12_goesOn (by decide) ⟨by decide, by decide⟩ rfl (kR15 hS0.1 ta0) (Nat.le_of_ble_eq_true rfl) rfl rfl (by decide) (by decide) (fk_X12_goesOn hS0.1 (gB) ((tkN gB gs)) ta0 (TxA.kp hT hS0 ta0 rfl rfl rfl (by decide +kernel) (by decide +kernel)) (by (try rw [c22]); first | done | with_reducible assumption | omega) (by (try rw [c26]); first | done | with_reducible assumption | omega) (by (try rw [c4]); first | done | with_reducible assumption | exact om_df98ac7c pre0 pre1 b5.2 b5.1 p6)) ?_
    rintro cn' K' N' I71 R72 L73 ⟨rfl, rfl, rfl, rfl, g74, gl75, p77, p78, p79, p80, p81, p82, p83, -⟩
    have hM84 : NmM I71 R0 L0 a1 gQ := NmM.kpS hM0 g74 hS0.1 ta1 (by decide +kernel) (by decide +kernel)
    have hS85 := hS0.tr g74 (by decide +kernel) (by decide +kernel)
    have c86 : I71 a1 0 = v29 := (g74.cell ta1 (by decide +kernel)).trans c30
    have c87 : I71 a1 1 = v33 := (g74.cell ta1 (by decide +kernel)).trans c34
    have c88 : I71 a0 13 = v64 := (g74.cell ta0 (by decide +kernel)).trans c65
    have hO89 : FrO 14 a1 T I0 I71 := hO0.st g74 (by decide +kernel)
    have hL90 := hL0.tr gl75 (by decide +kernel)
    have hM91 : NmM I71 R0 L73 a1 gQ := NmM.kpL hM84 gl75 hS85.1 ta1 (by decide +kernel)
    obtain ⟨v92, c93⟩ : ∃ v, I71 a0 9 = v := ⟨_, rfl⟩
    have b94 := iv15_9 hS85.1 ta0 c93
    rw [c93] at p77
    rw [c93] at p78
    obtain ⟨v95, c96⟩ : ∃ v, I71 a0 10 = v := ⟨_, rfl⟩
    have b97 := iv15_10 hS85.1 ta0 c96
    rw [c96] at p79
    obtain ⟨v98, c99⟩ : ∃ v, I71 a0 11 = v := ⟨_, rfl⟩
    rw [c99] at p80
    obtain ⟨y100, c101⟩ : ∃ v, L73 a0 15 = v := ⟨_, rfl⟩
    rw [c101] at p81
    obtain ⟨v102, c103⟩ : ∃ v, I71 a0 12 = v := ⟨_, rfl⟩
    rw [c103] at p82
    obtain ⟨v104, c105⟩ : ∃ v, I71 a0 8 = v := ⟨_, rfl⟩
    have b106 := iv15_8 hS85.1 ta0 c105
    rw [c105] at p83
    obtain ⟨w107, w108, w109, w110, w111, w112, w113, w114, w115, w116, w117, w118⟩ := lnl_10 (B := gB) (Q := gQ) (s := gs) (by exact om_e3967f06 p63)
    replace hF := hF.to w107 (alF_ch gB gQ (tkN gB gs))
    replace hP := hP.to w108 (alP_ch gB gQ (tkN gB gs))
    refine tr_aload_n dX12_readAlp_19 rfl ?_
    refine tr_ldcS dX12_readAlp_20 ld12_248 ?_
    refine q_bipush dX12_readAlp_22 (by decide +kernel) ?_
    intro v119 h120
    refine q_sipush dX12_readAlp_24 (by decide +kernel) ?_
    intro v121 h122
    refine q_callVi hE (M' := mX12_readPart) (as := [_, _, _]) dX12_readAlp_27 lk12_249 inX12_readPart seX12_readPart myX12_readPart (by decide) ⟨by decide, by decide⟩ rfl (kR15 hS85.1 ta0) (Nat.le_of_ble_eq_true rfl) rfl rfl (by decide) (by decide) (fk_X12_readPart hS85.1 (gB) ((tkN gB gs)) ta0 (by decide) (TxA.kp hT hS85 ta0 rfl rfl rfl (by decide +kernel) (by decide +kernel)) (by (try rw [c93]); first | done | with_reducible assumption | omega) (by (try rw [c93]); first | done | with_reducible assumption | omega) (by (try rw [c96]); first | done | with_reducible assumption | omega) (by (try rw [c99]); first | done | with_reducible assumption | omega) (by (try rw [c101]); first | done | assumption) (by (try rw [c103]); first | done | assumption) (by (try rw [c105]); first | done | assumption) (by (try rw [((hS85.cell ta0 (by decide +kernel)).trans c26)]); first | done | with_reducible assumption | omega)) ?_
    rintro v128 cn' K' N' I123 R124 L125 ⟨rfl, rfl, rfl, rfl, g126, dj129, -⟩
    (try rw [pk_18] at dj129)
    have hM130 : NmM I123 R0 L73 a1 gQ := NmM.kpS hM91 g126 hS85.1 ta1 (by decide +kernel) (by decide +kernel)
    have hS131 := hS85.tr g126 (by decide +kernel) (by decide +kernel)
    have c132 : I123 a1 0 = v29 := (g126.cell ta1 (by decide +kernel)).trans c86
    have c133 : I123 a1 1 = v33 := (g126.cell ta1 (by decide +kernel)).trans c87
    have hO134 : FrO 14 a1 T I0 I123 := hO89.st g126 (by decide +kernel)
    rcases dj129 with ⟨p135, p136, p137, p138, p139, p140, p141, p142, p143, p144, p145, p146, p147, p148, gl149, -⟩ | ⟨p150, p151, p152, p153, p154, -⟩ | ⟨p155, p156, p157, p158, p159, p160, p161, -⟩ | ⟨p162, p163, p164, p165, p166, p167, p168, p169, -⟩
    · skip
      have hL170 := hL90.tr gl149 (by decide +kernel)
      have hM171 : NmM I123 R0 L125 a1 gQ := NmM.kpL hM130 gl149 hS131.1 ta1 (by decide +kernel)
      obtain ⟨v172, c173⟩ : ∃ v, I123 a0 13 = v := ⟨_, rfl⟩
      rw [c173] at p141
      rw [c88] at p141
      obtain ⟨v174, c175⟩ : ∃ v, I123 a0 9 = v := ⟨_, rfl⟩
      have b176 := iv15_9 hS131.1 ta0 c175
      rw [c175] at p142
      rw [c175] at p143
      obtain ⟨v177, c178⟩ : ∃ v, I123 a0 10 = v := ⟨_, rfl⟩
      have b179 := iv15_10 hS131.1 ta0 c178
      rw [c178] at p144
      obtain ⟨v180, c181⟩ : ∃ v, I123 a0 11 = v := ⟨_, rfl⟩
      rw [c181] at p145
      obtain ⟨y182, c183⟩ : ∃ v, L125 a0 15 = v := ⟨_, rfl⟩
      rw [c183] at p146
      obtain ⟨v184, c185⟩ : ∃ v, I123 a0 12 = v := ⟨_, rfl⟩
      rw [c185] at p147
      obtain ⟨v186, c187⟩ : ∃ v, I123 a0 8 = v := ⟨_, rfl⟩
      have b188 := iv15_8 hS131.1 ta0 c187
      rw [c187] at p148
      replace hF := hF.neg (by exact om_3aac0632 p136 p137)
      replace hP := hP.neg (by exact om_3aac0632 p136 p137)
      replace hF := hF.neg (by exact om_10ed11b5 p138)
      replace hP := hP.neg (by exact om_10ed11b5 p138)
      replace hF := hF.neg (by exact om_687902d0 h120 h122 p135 p139 p140)
      replace hP := hP.neg (by exact om_687902d0 h120 h122 p135 p139 p140)
      refine tr_istore_n dX12_readAlp_30 (by decide) (by decide) ?_
      refine tr_aload_n dX12_readAlp_31 rfl ?_
      refine tr_ldcS dX12_readAlp_32 ld12_253 ?_
      refine q_iconst dX12_readAlp_34 (by decide) ?_
      intro v189 h190
      refine q_iconst dX12_readAlp_35 (by decide) ?_
      intro v191 h192
      refine q_callVi hE (M' := mX12_readPart) (as := [_, _, _]) dX12_readAlp_36 lk12_249 inX12_readPart seX12_readPart myX12_readPart (by decide) ⟨by decide, by decide⟩ rfl (kR15 hS131.1 ta0) (Nat.le_of_ble_eq_true rfl) rfl rfl (by decide) (by decide) (fk_X12_readPart hS131.1 (gB) ((tkN gB (tkN gB (tkN gB gs)))) ta0 (by decide) (TxA.kp hT hS131 ta0 rfl rfl rfl (by decide +kernel) (by decide +kernel)) (by (try rw [c175]); first | done | with_reducible assumption | omega) (by (try rw [c175]); first | done | with_reducible assumption | omega) (by (try rw [c178]); first | done | with_reducible assumption | omega) (by (try rw [c181]); first | done | with_reducible assumption | omega) (by (try rw [c183]); first | done | assumption) (by (try rw [c185]); first | done | assumption) (by (try rw [c187]); first | done | assumption) (by (try rw [((hS131.cell ta0 (by decide +kernel)).trans c26)]); first | done | with_reducible assumption | omega)) ?_
      rintro v198 cn' K' N' I193 R194 L195 ⟨rfl, rfl, rfl, rfl, g196, dj199, -⟩
      (try rw [pk_16] at dj199)
      have hM200 : NmM I193 R0 L125 a1 gQ := NmM.kpS hM171 g196 hS131.1 ta1 (by decide +kernel) (by decide +kernel)
      have hS201 := hS131.tr g196 (by decide +kernel) (by decide +kernel)
      have c202 : I193 a1 0 = v29 := (g196.cell ta1 (by decide +kernel)).trans c132
      have c203 : I193 a1 1 = v33 := (g196.cell ta1 (by decide +kernel)).trans c133
      have hO204 : FrO 14 a1 T I0 I193 := hO134.st g196 (by decide +kernel)
      rcases dj199 with ⟨p205, p206, p207, p208, p209, p210, p211, p212, p213, p214, p215, p216, p217, p218, gl219, -⟩ | ⟨p220, p221, p222, p223, p224, -⟩ | ⟨p225, p226, p227, p228, p229, p230, p231, -⟩ | ⟨p232, p233, p234, p235, p236, p237, p238, p239, -⟩
      · skip
        have hL240 := hL170.tr gl219 (by decide +kernel)
        have hM241 : NmM I193 R0 L195 a1 gQ := NmM.kpL hM200 gl219 hS201.1 ta1 (by decide +kernel)
        obtain ⟨v242, c243⟩ : ∃ v, I193 a0 13 = v := ⟨_, rfl⟩
        rw [c243] at p211
        rw [c173] at p211
        obtain ⟨v244, c245⟩ : ∃ v, I193 a0 9 = v := ⟨_, rfl⟩
        have b246 := iv15_9 hS201.1 ta0 c245
        rw [c245] at p212
        rw [c245] at p213
        obtain ⟨v247, c248⟩ : ∃ v, I193 a0 10 = v := ⟨_, rfl⟩
        have b249 := iv15_10 hS201.1 ta0 c248
        rw [c248] at p214
        obtain ⟨v250, c251⟩ : ∃ v, I193 a0 11 = v := ⟨_, rfl⟩
        rw [c251] at p215
        obtain ⟨y252, c253⟩ : ∃ v, L195 a0 15 = v := ⟨_, rfl⟩
        rw [c253] at p216
        obtain ⟨v254, c255⟩ : ∃ v, I193 a0 12 = v := ⟨_, rfl⟩
        rw [c255] at p217
        obtain ⟨v256, c257⟩ : ∃ v, I193 a0 8 = v := ⟨_, rfl⟩
        have b258 := iv15_8 hS201.1 ta0 c257
        rw [c257] at p218
        replace hF := hF.neg (by exact om_775460f3 p206 p207)
        replace hP := hP.neg (by exact om_775460f3 p206 p207)
        replace hF := hF.neg (by exact om_10ed11b5 p208)
        replace hP := hP.neg (by exact om_10ed11b5 p208)
        replace hF := hF.neg (by exact om_93cb55ae h190 h192 p205 p209 p210)
        replace hP := hP.neg (by exact om_93cb55ae h190 h192 p205 p209 p210)
        refine tr_istore_n dX12_readAlp_39 (by decide) (by decide) ?_
        refine tr_aload_n dX12_readAlp_40 rfl ?_
        refine tr_ldcS dX12_readAlp_41 ld12_255 ?_
        refine q_callVv hE (M' := mX12_needs) (as := [_]) dX12_readAlp_43 lk12_157 inX12_needs seX12_needs myX12_needs (by decide) ⟨by decide, by decide⟩ rfl (kR15 hS201.1 ta0) (Nat.le_of_ble_eq_true rfl) rfl rfl (by decide) (by decide) (fk_X12_needs hS201.1 (gB) ((tkN gB (tkN gB (tkN gB (tkN gB (tkN gB gs)))))) ta0 (by decide) (TxA.kp hT hS201 ta0 rfl rfl rfl (by decide +kernel) (by decide +kernel)) (by (try rw [c245]); first | done | with_reducible assumption | omega) (by (try rw [c245]); first | done | with_reducible assumption | omega) (by (try rw [c248]); first | done | with_reducible assumption | omega) (by (try rw [c251]); first | done | with_reducible assumption | omega) (by (try rw [c253]); first | done | assumption) (by (try rw [c255]); first | done | assumption) (by (try rw [c257]); first | done | assumption) (by (try rw [((hS201.cell ta0 (by decide +kernel)).trans c26)]); first | done | with_reducible assumption | omega)) ?_
        rintro cn' K' N' I259 R260 L261 ⟨rfl, rfl, rfl, rfl, g262, dj265, -⟩
        (try rw [pk_20] at dj265)
        have hM266 : NmM I259 R0 L195 a1 gQ := NmM.kpS hM241 g262 hS201.1 ta1 (by decide +kernel) (by decide +kernel)
        have hS267 := hS201.tr g262 (by decide +kernel) (by decide +kernel)
        have c268 : I259 a1 0 = v29 := (g262.cell ta1 (by decide +kernel)).trans c202
        have c269 : I259 a1 1 = v33 := (g262.cell ta1 (by decide +kernel)).trans c203
        have hO270 : FrO 14 a1 T I0 I259 := hO204.st g262 (by decide +kernel)
        rcases dj265 with ⟨p271, p272, p273, p274, p275, p276, p277, p278, p279, p280, gl281, -⟩ | ⟨p282, p283, p284, p285, -⟩
        · skip
          have hL286 := hL240.tr gl281 (by decide +kernel)
          have hM287 : NmM I259 R0 L261 a1 gQ := NmM.kpL hM266 gl281 hS267.1 ta1 (by decide +kernel)
          obtain ⟨v288, c289⟩ : ∃ v, I259 a0 13 = v := ⟨_, rfl⟩
          rw [c289] at p273
          rw [c243] at p273
          obtain ⟨v290, c291⟩ : ∃ v, I259 a0 9 = v := ⟨_, rfl⟩
          have b292 := iv15_9 hS267.1 ta0 c291
          rw [c291] at p274
          rw [c291] at p275
          obtain ⟨v293, c294⟩ : ∃ v, I259 a0 10 = v := ⟨_, rfl⟩
          have b295 := iv15_10 hS267.1 ta0 c294
          rw [c294] at p276
          obtain ⟨v296, c297⟩ : ∃ v, I259 a0 11 = v := ⟨_, rfl⟩
          rw [c297] at p277
          obtain ⟨y298, c299⟩ : ∃ v, L261 a0 15 = v := ⟨_, rfl⟩
          rw [c299] at p278
          obtain ⟨v300, c301⟩ : ∃ v, I259 a0 12 = v := ⟨_, rfl⟩
          rw [c301] at p279
          obtain ⟨v302, c303⟩ : ∃ v, I259 a0 8 = v := ⟨_, rfl⟩
          have b304 := iv15_8 hS267.1 ta0 c303
          rw [c303] at p280
          replace hF := hF.neg (by exact om_2666d1da p271 p272)
          replace hP := hP.neg (by exact om_2666d1da p271 p272)
          refine q_iconst dX12_readAlp_46 (by decide) ?_
          intro v305 h306
          refine tr_istore_n dX12_readAlp_47 (by decide) (by decide) ?_
          refine tr_iload_n dX12_readAlp_48 rfl ?_
          refine q_iconst dX12_readAlp_49 (by decide) ?_
          intro v307 h308
          refine q_icmp_ge 85 dX12_readAlp_50 (by decide) (fun h309 => ?_) (fun h309 => ?_)
          · skip
            exfalso; exact om_04e31de8 h306 h308 h309
          · skip
            refine tr_iload_n dX12_readAlp_53 rfl ?_
            refine q_if_le 63 dX12_readAlp_54 (by decide) (fun h310 => ?_) (fun h310 => ?_)
            · skip
              refine tr_aload_n dX12_readAlp_63 rfl ?_
              refine tr_getR dX12_readAlp_64 fl12_188 (kR15 hS267.1 ta0) d2 ?_
              refine tr_getR dX12_readAlp_67 fl12_260 (kR14 hS267.1 ta1) d67 ?_
              refine tr_iload_n dX12_readAlp_70 rfl ?_
              refine tr_aload_n dX12_readAlp_71 rfl ?_
              refine q_iconst dX12_readAlp_72 (by decide) ?_
              intro v311 h312
              refine q_bipush dX12_readAlp_73 (by decide +kernel) ?_
              intro v313 h314
              refine q_callVi hE (M' := mX12_readWhole) (as := [_, _]) dX12_readAlp_75 lk12_161 inX12_readWhole seX12_readWhole myX12_readWhole (by decide) ⟨by decide, by decide⟩ rfl (kR15 hS267.1 ta0) (Nat.le_of_ble_eq_true rfl) rfl rfl (by decide) (by decide) (fk_X12_readWhole hS267.1 (gB) ((tkN gB (tkN gB (tkN gB (tkN gB (tkN gB (tkN gB gs))))))) ta0 (TxA.kp hT hS267 ta0 rfl rfl rfl (by decide +kernel) (by decide +kernel)) (by (try rw [c291]); first | done | with_reducible assumption | omega) (by (try rw [c291]); first | done | with_reducible assumption | omega) (by (try rw [c294]); first | done | with_reducible assumption | omega) (by (try rw [c297]); first | done | with_reducible assumption | omega) (by (try rw [c299]); first | done | assumption) (by (try rw [c301]); first | done | assumption) (by (try rw [c303]); first | done | assumption) (by (try rw [((hS267.cell ta0 (by decide +kernel)).trans c26)]); first | done | with_reducible assumption | omega)) ?_
              rintro v320 cn' K' N' I315 R316 L317 ⟨rfl, rfl, rfl, rfl, g318, dj321, -⟩
              have hM322 : NmM I315 R0 L261 a1 gQ := NmM.kpS hM287 g318 hS267.1 ta1 (by decide +kernel) (by decide +kernel)
              have hS323 := hS267.tr g318 (by decide +kernel) (by decide +kernel)
              have c324 : I315 a1 0 = v29 := (g318.cell ta1 (by decide +kernel)).trans c268
              have c325 : I315 a1 1 = v33 := (g318.cell ta1 (by decide +kernel)).trans c269
              have hO326 : FrO 14 a1 T I0 I315 := hO270.st g318 (by decide +kernel)
              rcases dj321 with ⟨p327, p328, p329, p330, p331, p332, p333, p334, p335, p336, p337, p338, gl339, -⟩ | ⟨p340, p341, p342, p343, p344, -⟩ | ⟨p345, p346, p347, p348, p349, p350, -⟩
              · skip
                have hL351 := hL286.tr gl339 (by decide +kernel)
                have hM352 : NmM I315 R0 L317 a1 gQ := NmM.kpL hM322 gl339 hS323.1 ta1 (by decide +kernel)
                obtain ⟨v353, c354⟩ : ∃ v, I315 a0 13 = v := ⟨_, rfl⟩
                rw [c354] at p331
                rw [c289] at p331
                obtain ⟨v355, c356⟩ : ∃ v, I315 a0 9 = v := ⟨_, rfl⟩
                have b357 := iv15_9 hS323.1 ta0 c356
                rw [c356] at p332
                rw [c356] at p333
                obtain ⟨v358, c359⟩ : ∃ v, I315 a0 10 = v := ⟨_, rfl⟩
                have b360 := iv15_10 hS323.1 ta0 c359
                rw [c359] at p334
                obtain ⟨v361, c362⟩ : ∃ v, I315 a0 11 = v := ⟨_, rfl⟩
                rw [c362] at p335
                obtain ⟨y363, c364⟩ : ∃ v, L317 a0 15 = v := ⟨_, rfl⟩
                rw [c364] at p336
                obtain ⟨v365, c366⟩ : ∃ v, I315 a0 12 = v := ⟨_, rfl⟩
                rw [c366] at p337
                obtain ⟨v367, c368⟩ : ∃ v, I315 a0 8 = v := ⟨_, rfl⟩
                have b369 := iv15_8 hS323.1 ta0 c368
                rw [c368] at p338
                replace hF := hF.neg (by exact om_10ed11b5 p328)
                replace hP := hP.neg (by exact om_10ed11b5 p328)
                replace hF := hF.neg (by exact om_6dc00766 h312 h314 p329 p330)
                replace hP := hP.neg (by exact om_6dc00766 h312 h314 p329 p330)
                refine q_iast dX12_readAlp_78 (kR53 hS323.1 ta66) (ti_in (nR53 hS323.1 ta66) (by exact om_d99fa9e4 h306) (by exact om_e7afc65a h306)) hS323 ta66 (iokF rfl) rfl (by rfl) ?_
                intro I370 hS371 e373 f372
                have c374 : I370 a1 0 = v29 := (f372 _ _ (fun q => by have z := ta1; rw [q.1, ta66] at z; exact absurd z (by decide))).trans c324
                have c375 : I370 a1 1 = v33 := (f372 _ _ (fun q => by have z := ta1; rw [q.1, ta66] at z; exact absurd z (by decide))).trans c325
                have c376 : I370 a0 13 = v353 := (f372 _ _ (fun q => by have z := ta0; rw [q.1, ta66] at z; exact absurd z (by decide))).trans c354
                have c377 : I370 a0 9 = v355 := (f372 _ _ (fun q => by have z := ta0; rw [q.1, ta66] at z; exact absurd z (by decide))).trans c356
                have c378 : I370 a0 10 = v358 := (f372 _ _ (fun q => by have z := ta0; rw [q.1, ta66] at z; exact absurd z (by decide))).trans c359
                have c379 : I370 a0 11 = v361 := (f372 _ _ (fun q => by have z := ta0; rw [q.1, ta66] at z; exact absurd z (by decide))).trans c362
                have c380 : I370 a0 12 = v365 := (f372 _ _ (fun q => by have z := ta0; rw [q.1, ta66] at z; exact absurd z (by decide))).trans c366
                have c381 : I370 a0 8 = v367 := (f372 _ _ (fun q => by have z := ta0; rw [q.1, ta66] at z; exact absurd z (by decide))).trans c368
                have hO382 : FrO 14 a1 T I0 I370 := hO326.put f372 ta66 (Or.inl (by decide))
                have hM383 : NmM I370 R0 L317 a1 gQ := NmM.kp1 hM352 f372 ta66 rfl rfl hS323.1 ta1
                refine q_iincE dX12_readAlp_79 rfl (by decide) (by decide) (by intro j1 j2; exact om_502d7b61 h306) ?_
                intro v384 h385
                refine tr_goto 48 dX12_readAlp_82 (by decide) ?_
                refine tr_iload_n dX12_readAlp_48 rfl ?_
                refine q_iconst dX12_readAlp_49 (by decide) ?_
                intro v386 h387
                refine q_icmp_ge 85 dX12_readAlp_50 (by decide) (fun h388 => ?_) (fun h388 => ?_)
                · skip
                  exfalso; exact om_101a675e h306 h385 h387 h388
                · skip
                  refine tr_iload_n dX12_readAlp_53 rfl ?_
                  refine q_if_le 63 dX12_readAlp_54 (by decide) (fun h389 => ?_) (fun h389 => ?_)
                  · skip
                    exfalso; exact om_18f1b2af h306 h385 h389
                  · skip
                    refine tr_aload_n dX12_readAlp_57 rfl ?_
                    refine q_bipush dX12_readAlp_58 (by decide +kernel) ?_
                    intro v390 h391
                    refine q_callVv hE (M' := mX12_needsSign) (as := [_]) dX12_readAlp_60 lk12_257 inX12_needsSign seX12_needsSign myX12_needsSign (by decide) ⟨by decide, by decide⟩ rfl (kR15 hS371.1 ta0) (Nat.le_of_ble_eq_true rfl) rfl rfl (by decide) (by decide) (fk_X12_needsSign hS371.1 (gB) ((tkN gB (tkN gB (tkN gB (tkN gB (tkN gB (tkN gB (tkN gB gs)))))))) ta0 (TxA.kp hT hS371 ta0 rfl rfl rfl (by decide +kernel) (by decide +kernel)) (by (try rw [c377]); first | done | with_reducible assumption | omega) (by (try rw [c377]); first | done | with_reducible assumption | omega) (by (try rw [c378]); first | done | with_reducible assumption | omega) (by (try rw [c379]); first | done | with_reducible assumption | omega) (by (try rw [c364]); first | done | assumption) (by (try rw [c380]); first | done | assumption) (by (try rw [c381]); first | done | assumption) (by (try rw [((hS371.cell ta0 (by decide +kernel)).trans c26)]); first | done | with_reducible assumption | omega) (by first | done | with_reducible assumption | exact om_00f2e567 h391)) ?_
                    rintro cn' K' N' I392 R393 L394 ⟨rfl, rfl, rfl, rfl, g395, dj398, -⟩
                    have hM399 : NmM I392 R0 L317 a1 gQ := NmM.kpS hM383 g395 hS371.1 ta1 (by decide +kernel) (by decide +kernel)
                    have hS400 := hS371.tr g395 (by decide +kernel) (by decide +kernel)
                    have c401 : I392 a1 0 = v29 := (g395.cell ta1 (by decide +kernel)).trans c374
                    have c402 : I392 a1 1 = v33 := (g395.cell ta1 (by decide +kernel)).trans c375
                    have hO403 : FrO 14 a1 T I0 I392 := hO382.st g395 (by decide +kernel)
                    rcases dj398 with ⟨p404, p405, p406, p407, p408, p409, p410, p411, p412, gl413, -⟩ | ⟨p414, p415, p416, p417, -⟩
                    · skip
                      have hL418 := hL351.tr gl413 (by decide +kernel)
                      have hM419 : NmM I392 R0 L394 a1 gQ := NmM.kpL hM399 gl413 hS400.1 ta1 (by decide +kernel)
                      obtain ⟨v420, c421⟩ : ∃ v, I392 a0 13 = v := ⟨_, rfl⟩
                      rw [c421] at p405
                      rw [c376] at p405
                      obtain ⟨v422, c423⟩ : ∃ v, I392 a0 9 = v := ⟨_, rfl⟩
                      have b424 := iv15_9 hS400.1 ta0 c423
                      rw [c423] at p406
                      rw [c423] at p407
                      obtain ⟨v425, c426⟩ : ∃ v, I392 a0 10 = v := ⟨_, rfl⟩
                      have b427 := iv15_10 hS400.1 ta0 c426
                      rw [c426] at p408
                      obtain ⟨v428, c429⟩ : ∃ v, I392 a0 11 = v := ⟨_, rfl⟩
                      rw [c429] at p409
                      obtain ⟨y430, c431⟩ : ∃ v, L394 a0 15 = v := ⟨_, rfl⟩
                      rw [c431] at p410
                      obtain ⟨v432, c433⟩ : ∃ v, I392 a0 12 = v := ⟨_, rfl⟩
                      rw [c433] at p411
                      obtain ⟨v434, c435⟩ : ∃ v, I392 a0 8 = v := ⟨_, rfl⟩
                      have b436 := iv15_8 hS400.1 ta0 c435
                      rw [c435] at p412
                      replace hF := hF.neg (by exact om_b0959078 h391 p404)
                      replace hP := hP.neg (by exact om_b0959078 h391 p404)
                      refine tr_aload_n dX12_readAlp_63 rfl ?_
                      refine tr_getR dX12_readAlp_64 fl12_188 (kR15 hS400.1 ta0) d2 ?_
                      refine tr_getR dX12_readAlp_67 fl12_260 (kR14 hS400.1 ta1) d67 ?_
                      refine tr_iload_n dX12_readAlp_70 rfl ?_
                      refine tr_aload_n dX12_readAlp_71 rfl ?_
                      refine q_iconst dX12_readAlp_72 (by decide) ?_
                      intro v437 h438
                      refine q_bipush dX12_readAlp_73 (by decide +kernel) ?_
                      intro v439 h440
                      refine q_callVi hE (M' := mX12_readWhole) (as := [_, _]) dX12_readAlp_75 lk12_161 inX12_readWhole seX12_readWhole myX12_readWhole (by decide) ⟨by decide, by decide⟩ rfl (kR15 hS400.1 ta0) (Nat.le_of_ble_eq_true rfl) rfl rfl (by decide) (by decide) (fk_X12_readWhole hS400.1 (gB) ((tkN gB (tkN gB (tkN gB (tkN gB (tkN gB (tkN gB (tkN gB (tkN gB gs))))))))) ta0 (TxA.kp hT hS400 ta0 rfl rfl rfl (by decide +kernel) (by decide +kernel)) (by (try rw [c423]); first | done | with_reducible assumption | omega) (by (try rw [c423]); first | done | with_reducible assumption | omega) (by (try rw [c426]); first | done | with_reducible assumption | omega) (by (try rw [c429]); first | done | with_reducible assumption | omega) (by (try rw [c431]); first | done | assumption) (by (try rw [c433]); first | done | assumption) (by (try rw [c435]); first | done | assumption) (by (try rw [((hS400.cell ta0 (by decide +kernel)).trans c26)]); first | done | with_reducible assumption | omega)) ?_
                      rintro v446 cn' K' N' I441 R442 L443 ⟨rfl, rfl, rfl, rfl, g444, dj447, -⟩
                      have hM448 : NmM I441 R0 L394 a1 gQ := NmM.kpS hM419 g444 hS400.1 ta1 (by decide +kernel) (by decide +kernel)
                      have hS449 := hS400.tr g444 (by decide +kernel) (by decide +kernel)
                      have c450 : I441 a1 0 = v29 := (g444.cell ta1 (by decide +kernel)).trans c401
                      have c451 : I441 a1 1 = v33 := (g444.cell ta1 (by decide +kernel)).trans c402
                      have hO452 : FrO 14 a1 T I0 I441 := hO403.st g444 (by decide +kernel)
                      rcases dj447 with ⟨p453, p454, p455, p456, p457, p458, p459, p460, p461, p462, p463, p464, gl465, -⟩ | ⟨p466, p467, p468, p469, p470, -⟩ | ⟨p471, p472, p473, p474, p475, p476, -⟩
                      · skip
                        have hL477 := hL418.tr gl465 (by decide +kernel)
                        have hM478 : NmM I441 R0 L443 a1 gQ := NmM.kpL hM448 gl465 hS449.1 ta1 (by decide +kernel)
                        obtain ⟨v479, c480⟩ : ∃ v, I441 a0 13 = v := ⟨_, rfl⟩
                        rw [c480] at p457
                        rw [c421] at p457
                        obtain ⟨v481, c482⟩ : ∃ v, I441 a0 9 = v := ⟨_, rfl⟩
                        have b483 := iv15_9 hS449.1 ta0 c482
                        rw [c482] at p458
                        rw [c482] at p459
                        obtain ⟨v484, c485⟩ : ∃ v, I441 a0 10 = v := ⟨_, rfl⟩
                        have b486 := iv15_10 hS449.1 ta0 c485
                        rw [c485] at p460
                        obtain ⟨v487, c488⟩ : ∃ v, I441 a0 11 = v := ⟨_, rfl⟩
                        rw [c488] at p461
                        obtain ⟨y489, c490⟩ : ∃ v, L443 a0 15 = v := ⟨_, rfl⟩
                        rw [c490] at p462
                        obtain ⟨v491, c492⟩ : ∃ v, I441 a0 12 = v := ⟨_, rfl⟩
                        rw [c492] at p463
                        obtain ⟨v493, c494⟩ : ∃ v, I441 a0 8 = v := ⟨_, rfl⟩
                        have b495 := iv15_8 hS449.1 ta0 c494
                        rw [c494] at p464
                        replace hF := hF.neg (by exact om_10ed11b5 p454)
                        replace hP := hP.neg (by exact om_10ed11b5 p454)
                        replace hF := hF.neg (by exact om_6dc00766 h438 h440 p455 p456)
                        replace hP := hP.neg (by exact om_6dc00766 h438 h440 p455 p456)
                        refine q_iast dX12_readAlp_78 (kR53 hS449.1 ta66) (ti_in (nR53 hS449.1 ta66) (by exact om_402918db h306 h385) (by exact om_a7c15354 h306 h385)) hS449 ta66 (iokF rfl) rfl (by rfl) ?_
                        intro I496 hS497 e499 f498
                        have c500 : I496 a1 0 = v29 := (f498 _ _ (fun q => by have z := ta1; rw [q.1, ta66] at z; exact absurd z (by decide))).trans c450
                        have c501 : I496 a1 1 = v33 := (f498 _ _ (fun q => by have z := ta1; rw [q.1, ta66] at z; exact absurd z (by decide))).trans c451
                        have c502 : I496 a0 13 = v479 := (f498 _ _ (fun q => by have z := ta0; rw [q.1, ta66] at z; exact absurd z (by decide))).trans c480
                        have c503 : I496 a0 9 = v481 := (f498 _ _ (fun q => by have z := ta0; rw [q.1, ta66] at z; exact absurd z (by decide))).trans c482
                        have c504 : I496 a0 10 = v484 := (f498 _ _ (fun q => by have z := ta0; rw [q.1, ta66] at z; exact absurd z (by decide))).trans c485
                        have c505 : I496 a0 11 = v487 := (f498 _ _ (fun q => by have z := ta0; rw [q.1, ta66] at z; exact absurd z (by decide))).trans c488
                        have c506 : I496 a0 12 = v491 := (f498 _ _ (fun q => by have z := ta0; rw [q.1, ta66] at z; exact absurd z (by decide))).trans c492
                        have c507 : I496 a0 8 = v493 := (f498 _ _ (fun q => by have z := ta0; rw [q.1, ta66] at z; exact absurd z (by decide))).trans c494
                        have hO508 : FrO 14 a1 T I0 I496 := hO452.put f498 ta66 (Or.inl (by decide))
                        have hM509 : NmM I496 R0 L443 a1 gQ := NmM.kp1 hM478 f498 ta66 rfl rfl hS449.1 ta1
                        refine q_iincE dX12_readAlp_79 rfl (by decide) (by decide) (by intro j1 j2; exact om_ffa31f14 h306 h385) ?_
                        intro v510 h511
                        refine tr_goto 48 dX12_readAlp_82 (by decide) ?_
                        refine tr_iload_n dX12_readAlp_48 rfl ?_
                        refine q_iconst dX12_readAlp_49 (by decide) ?_
                        intro v512 h513
                        refine q_icmp_ge 85 dX12_readAlp_50 (by decide) (fun h514 => ?_) (fun h514 => ?_)
                        · skip
                          exfalso; exact om_1de0d0d9 h306 h385 h511 h513 h514
                        · skip
                          refine tr_iload_n dX12_readAlp_53 rfl ?_
                          refine q_if_le 63 dX12_readAlp_54 (by decide) (fun h515 => ?_) (fun h515 => ?_)
                          · skip
                            exfalso; exact om_38ece8a0 h306 h385 h511 h515
                          · skip
                            refine tr_aload_n dX12_readAlp_57 rfl ?_
                            refine q_bipush dX12_readAlp_58 (by decide +kernel) ?_
                            intro v516 h517
                            refine q_callVv hE (M' := mX12_needsSign) (as := [_]) dX12_readAlp_60 lk12_257 inX12_needsSign seX12_needsSign myX12_needsSign (by decide) ⟨by decide, by decide⟩ rfl (kR15 hS497.1 ta0) (Nat.le_of_ble_eq_true rfl) rfl rfl (by decide) (by decide) (fk_X12_needsSign hS497.1 (gB) ((tkN gB (tkN gB (tkN gB (tkN gB (tkN gB (tkN gB (tkN gB (tkN gB (tkN gB gs)))))))))) ta0 (TxA.kp hT hS497 ta0 rfl rfl rfl (by decide +kernel) (by decide +kernel)) (by (try rw [c503]); first | done | with_reducible assumption | omega) (by (try rw [c503]); first | done | with_reducible assumption | omega) (by (try rw [c504]); first | done | with_reducible assumption | omega) (by (try rw [c505]); first | done | with_reducible assumption | omega) (by (try rw [c490]); first | done | assumption) (by (try rw [c506]); first | done | assumption) (by (try rw [c507]); first | done | assumption) (by (try rw [((hS497.cell ta0 (by decide +kernel)).trans c26)]); first | done | with_reducible assumption | omega) (by first | done | with_reducible assumption | exact om_00f2e567 h517)) ?_
                            rintro cn' K' N' I518 R519 L520 ⟨rfl, rfl, rfl, rfl, g521, dj524, -⟩
                            have hM525 : NmM I518 R0 L443 a1 gQ := NmM.kpS hM509 g521 hS497.1 ta1 (by decide +kernel) (by decide +kernel)
                            have hS526 := hS497.tr g521 (by decide +kernel) (by decide +kernel)
                            have c527 : I518 a1 0 = v29 := (g521.cell ta1 (by decide +kernel)).trans c500
                            have c528 : I518 a1 1 = v33 := (g521.cell ta1 (by decide +kernel)).trans c501
                            have hO529 : FrO 14 a1 T I0 I518 := hO508.st g521 (by decide +kernel)
                            rcases dj524 with ⟨p530, p531, p532, p533, p534, p535, p536, p537, p538, gl539, -⟩ | ⟨p540, p541, p542, p543, -⟩
                            · skip
                              have hL544 := hL477.tr gl539 (by decide +kernel)
                              have hM545 : NmM I518 R0 L520 a1 gQ := NmM.kpL hM525 gl539 hS526.1 ta1 (by decide +kernel)
                              obtain ⟨v546, c547⟩ : ∃ v, I518 a0 13 = v := ⟨_, rfl⟩
                              rw [c547] at p531
                              rw [c502] at p531
                              obtain ⟨v548, c549⟩ : ∃ v, I518 a0 9 = v := ⟨_, rfl⟩
                              have b550 := iv15_9 hS526.1 ta0 c549
                              rw [c549] at p532
                              rw [c549] at p533
                              obtain ⟨v551, c552⟩ : ∃ v, I518 a0 10 = v := ⟨_, rfl⟩
                              have b553 := iv15_10 hS526.1 ta0 c552
                              rw [c552] at p534
                              obtain ⟨v554, c555⟩ : ∃ v, I518 a0 11 = v := ⟨_, rfl⟩
                              rw [c555] at p535
                              obtain ⟨y556, c557⟩ : ∃ v, L520 a0 15 = v := ⟨_, rfl⟩
                              rw [c557] at p536
                              obtain ⟨v558, c559⟩ : ∃ v, I518 a0 12 = v := ⟨_, rfl⟩
                              rw [c559] at p537
                              obtain ⟨v560, c561⟩ : ∃ v, I518 a0 8 = v := ⟨_, rfl⟩
                              have b562 := iv15_8 hS526.1 ta0 c561
                              rw [c561] at p538
                              replace hF := hF.neg (by exact om_b0959078 h517 p530)
                              replace hP := hP.neg (by exact om_b0959078 h517 p530)
                              refine tr_aload_n dX12_readAlp_63 rfl ?_
                              refine tr_getR dX12_readAlp_64 fl12_188 (kR15 hS526.1 ta0) d2 ?_
                              refine tr_getR dX12_readAlp_67 fl12_260 (kR14 hS526.1 ta1) d67 ?_
                              refine tr_iload_n dX12_readAlp_70 rfl ?_
                              refine tr_aload_n dX12_readAlp_71 rfl ?_
                              refine q_iconst dX12_readAlp_72 (by decide) ?_
                              intro v563 h564
                              refine q_bipush dX12_readAlp_73 (by decide +kernel) ?_
                              intro v565 h566
                              refine q_callVi hE (M' := mX12_readWhole) (as := [_, _]) dX12_readAlp_75 lk12_161 inX12_readWhole seX12_readWhole myX12_readWhole (by decide) ⟨by decide, by decide⟩ rfl (kR15 hS526.1 ta0) (Nat.le_of_ble_eq_true rfl) rfl rfl (by decide) (by decide) (fk_X12_readWhole hS526.1 (gB) ((tkN gB (tkN gB (tkN gB (tkN gB (tkN gB (tkN gB (tkN gB (tkN gB (tkN gB (tkN gB gs))))))))))) ta0 (TxA.kp hT hS526 ta0 rfl rfl rfl (by decide +kernel) (by decide +kernel)) (by (try rw [c549]); first | done | with_reducible assumption | omega) (by (try rw [c549]); first | done | with_reducible assumption | omega) (by (try rw [c552]); first | done | with_reducible assumption | omega) (by (try rw [c555]); first | done | with_reducible assumption | omega) (by (try rw [c557]); first | done | assumption) (by (try rw [c559]); first | done | assumption) (by (try rw [c561]); first | done | assumption) (by (try rw [((hS526.cell ta0 (by decide +kernel)).trans c26)]); first | done | with_reducible assumption | omega)) ?_
                              rintro v572 cn' K' N' I567 R568 L569 ⟨rfl, rfl, rfl, rfl, g570, dj573, -⟩
                              have hM574 : NmM I567 R0 L520 a1 gQ := NmM.kpS hM545 g570 hS526.1 ta1 (by decide +kernel) (by decide +kernel)
                              have hS575 := hS526.tr g570 (by decide +kernel) (by decide +kernel)
                              have c576 : I567 a1 0 = v29 := (g570.cell ta1 (by decide +kernel)).trans c527
                              have c577 : I567 a1 1 = v33 := (g570.cell ta1 (by decide +kernel)).trans c528
                              have hO578 : FrO 14 a1 T I0 I567 := hO529.st g570 (by decide +kernel)
                              rcases dj573 with ⟨p579, p580, p581, p582, p583, p584, p585, p586, p587, p588, p589, p590, gl591, -⟩ | ⟨p592, p593, p594, p595, p596, -⟩ | ⟨p597, p598, p599, p600, p601, p602, -⟩
                              · skip
                                have hL603 := hL544.tr gl591 (by decide +kernel)
                                have hM604 : NmM I567 R0 L569 a1 gQ := NmM.kpL hM574 gl591 hS575.1 ta1 (by decide +kernel)
                                obtain ⟨v605, c606⟩ : ∃ v, I567 a0 13 = v := ⟨_, rfl⟩
                                rw [c606] at p583
                                rw [c547] at p583
                                obtain ⟨v607, c608⟩ : ∃ v, I567 a0 9 = v := ⟨_, rfl⟩
                                have b609 := iv15_9 hS575.1 ta0 c608
                                rw [c608] at p584
                                rw [c608] at p585
                                obtain ⟨v610, c611⟩ : ∃ v, I567 a0 10 = v := ⟨_, rfl⟩
                                have b612 := iv15_10 hS575.1 ta0 c611
                                rw [c611] at p586
                                obtain ⟨v613, c614⟩ : ∃ v, I567 a0 11 = v := ⟨_, rfl⟩
                                rw [c614] at p587
                                obtain ⟨y615, c616⟩ : ∃ v, L569 a0 15 = v := ⟨_, rfl⟩
                                rw [c616] at p588
                                obtain ⟨v617, c618⟩ : ∃ v, I567 a0 12 = v := ⟨_, rfl⟩
                                rw [c618] at p589
                                obtain ⟨v619, c620⟩ : ∃ v, I567 a0 8 = v := ⟨_, rfl⟩
                                have b621 := iv15_8 hS575.1 ta0 c620
                                rw [c620] at p590
                                replace hF := hF.neg (by exact om_10ed11b5 p580)
                                replace hP := hP.neg (by exact om_10ed11b5 p580)
                                replace hF := hF.neg (by exact om_6dc00766 h564 h566 p581 p582)
                                replace hP := hP.neg (by exact om_6dc00766 h564 h566 p581 p582)
                                refine q_iast dX12_readAlp_78 (kR53 hS575.1 ta66) (ti_in (nR53 hS575.1 ta66) (by exact om_70533a47 h306 h385 h511) (by exact om_00d01f83 h306 h385 h511)) hS575 ta66 (iokF rfl) rfl (by rfl) ?_
                                intro I622 hS623 e625 f624
                                have c626 : I622 a1 0 = v29 := (f624 _ _ (fun q => by have z := ta1; rw [q.1, ta66] at z; exact absurd z (by decide))).trans c576
                                have c627 : I622 a1 1 = v33 := (f624 _ _ (fun q => by have z := ta1; rw [q.1, ta66] at z; exact absurd z (by decide))).trans c577
                                have c628 : I622 a0 13 = v605 := (f624 _ _ (fun q => by have z := ta0; rw [q.1, ta66] at z; exact absurd z (by decide))).trans c606
                                have c629 : I622 a0 9 = v607 := (f624 _ _ (fun q => by have z := ta0; rw [q.1, ta66] at z; exact absurd z (by decide))).trans c608
                                have c630 : I622 a0 10 = v610 := (f624 _ _ (fun q => by have z := ta0; rw [q.1, ta66] at z; exact absurd z (by decide))).trans c611
                                have c631 : I622 a0 11 = v613 := (f624 _ _ (fun q => by have z := ta0; rw [q.1, ta66] at z; exact absurd z (by decide))).trans c614
                                have c632 : I622 a0 12 = v617 := (f624 _ _ (fun q => by have z := ta0; rw [q.1, ta66] at z; exact absurd z (by decide))).trans c618
                                have c633 : I622 a0 8 = v619 := (f624 _ _ (fun q => by have z := ta0; rw [q.1, ta66] at z; exact absurd z (by decide))).trans c620
                                have hO634 : FrO 14 a1 T I0 I622 := hO578.put f624 ta66 (Or.inl (by decide))
                                have hM635 : NmM I622 R0 L569 a1 gQ := NmM.kp1 hM604 f624 ta66 rfl rfl hS575.1 ta1
                                refine q_iincE dX12_readAlp_79 rfl (by decide) (by decide) (by intro j1 j2; exact om_c222afaf h306 h385 h511) ?_
                                intro v636 h637
                                refine tr_goto 48 dX12_readAlp_82 (by decide) ?_
                                refine tr_iload_n dX12_readAlp_48 rfl ?_
                                refine q_iconst dX12_readAlp_49 (by decide) ?_
                                intro v638 h639
                                refine q_icmp_ge 85 dX12_readAlp_50 (by decide) (fun h640 => ?_) (fun h640 => ?_)
                                · skip
                                  exfalso; exact om_977367b2 h306 h385 h511 h637 h639 h640
                                · skip
                                  refine tr_iload_n dX12_readAlp_53 rfl ?_
                                  refine q_if_le 63 dX12_readAlp_54 (by decide) (fun h641 => ?_) (fun h641 => ?_)
                                  · skip
                                    exfalso; exact om_9780174a h306 h385 h511 h637 h641
                                  · skip
                                    refine tr_aload_n dX12_readAlp_57 rfl ?_
                                    refine q_bipush dX12_readAlp_58 (by decide +kernel) ?_
                                    intro v642 h643
                                    refine q_callVv hE (M' := mX12_needsSign) (as := [_]) dX12_readAlp_60 lk12_257 inX12_needsSign seX12_needsSign myX12_needsSign (by decide) ⟨by decide, by decide⟩ rfl (kR15 hS623.1 ta0) (Nat.le_of_ble_eq_true rfl) rfl rfl (by decide) (by decide) (fk_X12_needsSign hS623.1 (gB) ((tkN gB (tkN gB (tkN gB (tkN gB (tkN gB (tkN gB (tkN gB (tkN gB (tkN gB (tkN gB (tkN gB gs)))))))))))) ta0 (TxA.kp hT hS623 ta0 rfl rfl rfl (by decide +kernel) (by decide +kernel)) (by (try rw [c629]); first | done | with_reducible assumption | omega) (by (try rw [c629]); first | done | with_reducible assumption | omega) (by (try rw [c630]); first | done | with_reducible assumption | omega) (by (try rw [c631]); first | done | with_reducible assumption | omega) (by (try rw [c616]); first | done | assumption) (by (try rw [c632]); first | done | assumption) (by (try rw [c633]); first | done | assumption) (by (try rw [((hS623.cell ta0 (by decide +kernel)).trans c26)]); first | done | with_reducible assumption | omega) (by first | done | with_reducible assumption | exact om_00f2e567 h643)) ?_
                                    rintro cn' K' N' I644 R645 L646 ⟨rfl, rfl, rfl, rfl, g647, dj650, -⟩
                                    have hM651 : NmM I644 R0 L569 a1 gQ := NmM.kpS hM635 g647 hS623.1 ta1 (by decide +kernel) (by decide +kernel)
                                    have hS652 := hS623.tr g647 (by decide +kernel) (by decide +kernel)
                                    have c653 : I644 a1 0 = v29 := (g647.cell ta1 (by decide +kernel)).trans c626
                                    have c654 : I644 a1 1 = v33 := (g647.cell ta1 (by decide +kernel)).trans c627
                                    have hO655 : FrO 14 a1 T I0 I644 := hO634.st g647 (by decide +kernel)
                                    rcases dj650 with ⟨p656, p657, p658, p659, p660, p661, p662, p663, p664, gl665, -⟩ | ⟨p666, p667, p668, p669, -⟩
                                    · skip
                                      have hL670 := hL603.tr gl665 (by decide +kernel)
                                      have hM671 : NmM I644 R0 L646 a1 gQ := NmM.kpL hM651 gl665 hS652.1 ta1 (by decide +kernel)
                                      obtain ⟨v672, c673⟩ : ∃ v, I644 a0 13 = v := ⟨_, rfl⟩
                                      rw [c673] at p657
                                      rw [c628] at p657
                                      obtain ⟨v674, c675⟩ : ∃ v, I644 a0 9 = v := ⟨_, rfl⟩
                                      have b676 := iv15_9 hS652.1 ta0 c675
                                      rw [c675] at p658
                                      rw [c675] at p659
                                      obtain ⟨v677, c678⟩ : ∃ v, I644 a0 10 = v := ⟨_, rfl⟩
                                      have b679 := iv15_10 hS652.1 ta0 c678
                                      rw [c678] at p660
                                      obtain ⟨v680, c681⟩ : ∃ v, I644 a0 11 = v := ⟨_, rfl⟩
                                      rw [c681] at p661
                                      obtain ⟨y682, c683⟩ : ∃ v, L646 a0 15 = v := ⟨_, rfl⟩
                                      rw [c683] at p662
                                      obtain ⟨v684, c685⟩ : ∃ v, I644 a0 12 = v := ⟨_, rfl⟩
                                      rw [c685] at p663
                                      obtain ⟨v686, c687⟩ : ∃ v, I644 a0 8 = v := ⟨_, rfl⟩
                                      have b688 := iv15_8 hS652.1 ta0 c687
                                      rw [c687] at p664
                                      replace hF := hF.neg (by exact om_b0959078 h643 p656)
                                      replace hP := hP.neg (by exact om_b0959078 h643 p656)
                                      refine tr_aload_n dX12_readAlp_63 rfl ?_
                                      refine tr_getR dX12_readAlp_64 fl12_188 (kR15 hS652.1 ta0) d2 ?_
                                      refine tr_getR dX12_readAlp_67 fl12_260 (kR14 hS652.1 ta1) d67 ?_
                                      refine tr_iload_n dX12_readAlp_70 rfl ?_
                                      refine tr_aload_n dX12_readAlp_71 rfl ?_
                                      refine q_iconst dX12_readAlp_72 (by decide) ?_
                                      intro v689 h690
                                      refine q_bipush dX12_readAlp_73 (by decide +kernel) ?_
                                      intro v691 h692
                                      refine q_callVi hE (M' := mX12_readWhole) (as := [_, _]) dX12_readAlp_75 lk12_161 inX12_readWhole seX12_readWhole myX12_readWhole (by decide) ⟨by decide, by decide⟩ rfl (kR15 hS652.1 ta0) (Nat.le_of_ble_eq_true rfl) rfl rfl (by decide) (by decide) (fk_X12_readWhole hS652.1 (gB) ((tkN gB (tkN gB (tkN gB (tkN gB (tkN gB (tkN gB (tkN gB (tkN gB (tkN gB (tkN gB (tkN gB (tkN gB gs))))))))))))) ta0 (TxA.kp hT hS652 ta0 rfl rfl rfl (by decide +kernel) (by decide +kernel)) (by (try rw [c675]); first | done | with_reducible assumption | omega) (by (try rw [c675]); first | done | with_reducible assumption | omega) (by (try rw [c678]); first | done | with_reducible assumption | omega) (by (try rw [c681]); first | done | with_reducible assumption | omega) (by (try rw [c683]); first | done | assumption) (by (try rw [c685]); first | done | assumption) (by (try rw [c687]); first | done | assumption) (by (try rw [((hS652.cell ta0 (by decide +kernel)).trans c26)]); first | done | with_reducible assumption | omega)) ?_
                                      rintro v698 cn' K' N' I693 R694 L695 ⟨rfl, rfl, rfl, rfl, g696, dj699, -⟩
                                      have hM700 : NmM I693 R0 L646 a1 gQ := NmM.kpS hM671 g696 hS652.1 ta1 (by decide +kernel) (by decide +kernel)
                                      have hS701 := hS652.tr g696 (by decide +kernel) (by decide +kernel)
                                      have c702 : I693 a1 0 = v29 := (g696.cell ta1 (by decide +kernel)).trans c653
                                      have c703 : I693 a1 1 = v33 := (g696.cell ta1 (by decide +kernel)).trans c654
                                      have hO704 : FrO 14 a1 T I0 I693 := hO655.st g696 (by decide +kernel)
                                      rcases dj699 with ⟨p705, p706, p707, p708, p709, p710, p711, p712, p713, p714, p715, p716, gl717, -⟩ | ⟨p718, p719, p720, p721, p722, -⟩ | ⟨p723, p724, p725, p726, p727, p728, -⟩
                                      · skip
                                        have hL729 := hL670.tr gl717 (by decide +kernel)
                                        have hM730 : NmM I693 R0 L695 a1 gQ := NmM.kpL hM700 gl717 hS701.1 ta1 (by decide +kernel)
                                        obtain ⟨v731, c732⟩ : ∃ v, I693 a0 13 = v := ⟨_, rfl⟩
                                        rw [c732] at p709
                                        rw [c673] at p709
                                        obtain ⟨v733, c734⟩ : ∃ v, I693 a0 9 = v := ⟨_, rfl⟩
                                        have b735 := iv15_9 hS701.1 ta0 c734
                                        rw [c734] at p710
                                        rw [c734] at p711
                                        obtain ⟨v736, c737⟩ : ∃ v, I693 a0 10 = v := ⟨_, rfl⟩
                                        have b738 := iv15_10 hS701.1 ta0 c737
                                        rw [c737] at p712
                                        obtain ⟨v739, c740⟩ : ∃ v, I693 a0 11 = v := ⟨_, rfl⟩
                                        rw [c740] at p713
                                        obtain ⟨y741, c742⟩ : ∃ v, L695 a0 15 = v := ⟨_, rfl⟩
                                        rw [c742] at p714
                                        obtain ⟨v743, c744⟩ : ∃ v, I693 a0 12 = v := ⟨_, rfl⟩
                                        rw [c744] at p715
                                        obtain ⟨v745, c746⟩ : ∃ v, I693 a0 8 = v := ⟨_, rfl⟩
                                        have b747 := iv15_8 hS701.1 ta0 c746
                                        rw [c746] at p716
                                        replace hF := hF.neg (by exact om_10ed11b5 p706)
                                        replace hP := hP.neg (by exact om_10ed11b5 p706)
                                        replace hF := hF.neg (by exact om_6dc00766 h690 h692 p707 p708)
                                        replace hP := hP.neg (by exact om_6dc00766 h690 h692 p707 p708)
                                        refine q_iast dX12_readAlp_78 (kR53 hS701.1 ta66) (ti_in (nR53 hS701.1 ta66) (by exact om_5b4fddb5 h306 h385 h511 h637) (by exact om_7bfe2d13 h306 h385 h511 h637)) hS701 ta66 (iokF rfl) rfl (by rfl) ?_
                                        intro I748 hS749 e751 f750
                                        have c752 : I748 a1 0 = v29 := (f750 _ _ (fun q => by have z := ta1; rw [q.1, ta66] at z; exact absurd z (by decide))).trans c702
                                        have c753 : I748 a1 1 = v33 := (f750 _ _ (fun q => by have z := ta1; rw [q.1, ta66] at z; exact absurd z (by decide))).trans c703
                                        have c754 : I748 a0 13 = v731 := (f750 _ _ (fun q => by have z := ta0; rw [q.1, ta66] at z; exact absurd z (by decide))).trans c732
                                        have c755 : I748 a0 9 = v733 := (f750 _ _ (fun q => by have z := ta0; rw [q.1, ta66] at z; exact absurd z (by decide))).trans c734
                                        have c756 : I748 a0 10 = v736 := (f750 _ _ (fun q => by have z := ta0; rw [q.1, ta66] at z; exact absurd z (by decide))).trans c737
                                        have c757 : I748 a0 11 = v739 := (f750 _ _ (fun q => by have z := ta0; rw [q.1, ta66] at z; exact absurd z (by decide))).trans c740
                                        have c758 : I748 a0 12 = v743 := (f750 _ _ (fun q => by have z := ta0; rw [q.1, ta66] at z; exact absurd z (by decide))).trans c744
                                        have c759 : I748 a0 8 = v745 := (f750 _ _ (fun q => by have z := ta0; rw [q.1, ta66] at z; exact absurd z (by decide))).trans c746
                                        have hO760 : FrO 14 a1 T I0 I748 := hO704.put f750 ta66 (Or.inl (by decide))
                                        have hM761 : NmM I748 R0 L695 a1 gQ := NmM.kp1 hM730 f750 ta66 rfl rfl hS701.1 ta1
                                        refine q_iincE dX12_readAlp_79 rfl (by decide) (by decide) (by intro j1 j2; exact om_3ce631fb h306 h385 h511 h637) ?_
                                        intro v762 h763
                                        refine tr_goto 48 dX12_readAlp_82 (by decide) ?_
                                        refine tr_iload_n dX12_readAlp_48 rfl ?_
                                        refine q_iconst dX12_readAlp_49 (by decide) ?_
                                        intro v764 h765
                                        refine q_icmp_ge 85 dX12_readAlp_50 (by decide) (fun h766 => ?_) (fun h766 => ?_)
                                        · skip
                                          exfalso; exact om_20275ef3 h306 h385 h511 h637 h763 h765 h766
                                        · skip
                                          refine tr_iload_n dX12_readAlp_53 rfl ?_
                                          refine q_if_le 63 dX12_readAlp_54 (by decide) (fun h767 => ?_) (fun h767 => ?_)
                                          · skip
                                            exfalso; exact om_f85ad084 h306 h385 h511 h637 h763 h767
                                          · skip
                                            refine tr_aload_n dX12_readAlp_57 rfl ?_
                                            refine q_bipush dX12_readAlp_58 (by decide +kernel) ?_
                                            intro v768 h769
                                            refine q_callVv hE (M' := mX12_needsSign) (as := [_]) dX12_readAlp_60 lk12_257 inX12_needsSign seX12_needsSign myX12_needsSign (by decide) ⟨by decide, by decide⟩ rfl (kR15 hS749.1 ta0) (Nat.le_of_ble_eq_true rfl) rfl rfl (by decide) (by decide) (fk_X12_needsSign hS749.1 (gB) ((tkN gB (tkN gB (tkN gB (tkN gB (tkN gB (tkN gB (tkN gB (tkN gB (tkN gB (tkN gB (tkN gB (tkN gB (tkN gB gs)))))))))))))) ta0 (TxA.kp hT hS749 ta0 rfl rfl rfl (by decide +kernel) (by decide +kernel)) (by (try rw [c755]); first | done | with_reducible assumption | omega) (by (try rw [c755]); first | done | with_reducible assumption | omega) (by (try rw [c756]); first | done | with_reducible assumption | omega) (by (try rw [c757]); first | done | with_reducible assumption | omega) (by (try rw [c742]); first | done | assumption) (by (try rw [c758]); first | done | assumption) (by (try rw [c759]); first | done | assumption) (by (try rw [((hS749.cell ta0 (by decide +kernel)).trans c26)]); first | done | with_reducible assumption | omega) (by first | done | with_reducible assumption | exact om_00f2e567 h769)) ?_
                                            rintro cn' K' N' I770 R771 L772 ⟨rfl, rfl, rfl, rfl, g773, dj776, -⟩
                                            have hM777 : NmM I770 R0 L695 a1 gQ := NmM.kpS hM761 g773 hS749.1 ta1 (by decide +kernel) (by decide +kernel)
                                            have hS778 := hS749.tr g773 (by decide +kernel) (by decide +kernel)
                                            have c779 : I770 a1 0 = v29 := (g773.cell ta1 (by decide +kernel)).trans c752
                                            have c780 : I770 a1 1 = v33 := (g773.cell ta1 (by decide +kernel)).trans c753
                                            have hO781 : FrO 14 a1 T I0 I770 := hO760.st g773 (by decide +kernel)
                                            rcases dj776 with ⟨p782, p783, p784, p785, p786, p787, p788, p789, p790, gl791, -⟩ | ⟨p792, p793, p794, p795, -⟩
                                            · skip
                                              have hL796 := hL729.tr gl791 (by decide +kernel)
                                              have hM797 : NmM I770 R0 L772 a1 gQ := NmM.kpL hM777 gl791 hS778.1 ta1 (by decide +kernel)
                                              obtain ⟨v798, c799⟩ : ∃ v, I770 a0 13 = v := ⟨_, rfl⟩
                                              rw [c799] at p783
                                              rw [c754] at p783
                                              obtain ⟨v800, c801⟩ : ∃ v, I770 a0 9 = v := ⟨_, rfl⟩
                                              have b802 := iv15_9 hS778.1 ta0 c801
                                              rw [c801] at p784
                                              rw [c801] at p785
                                              obtain ⟨v803, c804⟩ : ∃ v, I770 a0 10 = v := ⟨_, rfl⟩
                                              have b805 := iv15_10 hS778.1 ta0 c804
                                              rw [c804] at p786
                                              obtain ⟨v806, c807⟩ : ∃ v, I770 a0 11 = v := ⟨_, rfl⟩
                                              rw [c807] at p787
                                              obtain ⟨y808, c809⟩ : ∃ v, L772 a0 15 = v := ⟨_, rfl⟩
                                              rw [c809] at p788
                                              obtain ⟨v810, c811⟩ : ∃ v, I770 a0 12 = v := ⟨_, rfl⟩
                                              rw [c811] at p789
                                              obtain ⟨v812, c813⟩ : ∃ v, I770 a0 8 = v := ⟨_, rfl⟩
                                              have b814 := iv15_8 hS778.1 ta0 c813
                                              rw [c813] at p790
                                              replace hF := hF.neg (by exact om_b0959078 h769 p782)
                                              replace hP := hP.neg (by exact om_b0959078 h769 p782)
                                              refine tr_aload_n dX12_readAlp_63 rfl ?_
                                              refine tr_getR dX12_readAlp_64 fl12_188 (kR15 hS778.1 ta0) d2 ?_
                                              refine tr_getR dX12_readAlp_67 fl12_260 (kR14 hS778.1 ta1) d67 ?_
                                              refine tr_iload_n dX12_readAlp_70 rfl ?_
                                              refine tr_aload_n dX12_readAlp_71 rfl ?_
                                              refine q_iconst dX12_readAlp_72 (by decide) ?_
                                              intro v815 h816
                                              refine q_bipush dX12_readAlp_73 (by decide +kernel) ?_
                                              intro v817 h818
                                              refine q_callVi hE (M' := mX12_readWhole) (as := [_, _]) dX12_readAlp_75 lk12_161 inX12_readWhole seX12_readWhole myX12_readWhole (by decide) ⟨by decide, by decide⟩ rfl (kR15 hS778.1 ta0) (Nat.le_of_ble_eq_true rfl) rfl rfl (by decide) (by decide) (fk_X12_readWhole hS778.1 (gB) ((tkN gB (tkN gB (tkN gB (tkN gB (tkN gB (tkN gB (tkN gB (tkN gB (tkN gB (tkN gB (tkN gB (tkN gB (tkN gB (tkN gB gs))))))))))))))) ta0 (TxA.kp hT hS778 ta0 rfl rfl rfl (by decide +kernel) (by decide +kernel)) (by (try rw [c801]); first | done | with_reducible assumption | omega) (by (try rw [c801]); first | done | with_reducible assumption | omega) (by (try rw [c804]); first | done | with_reducible assumption | omega) (by (try rw [c807]); first | done | with_reducible assumption | omega) (by (try rw [c809]); first | done | assumption) (by (try rw [c811]); first | done | assumption) (by (try rw [c813]); first | done | assumption) (by (try rw [((hS778.cell ta0 (by decide +kernel)).trans c26)]); first | done | with_reducible assumption | omega)) ?_
                                              rintro v824 cn' K' N' I819 R820 L821 ⟨rfl, rfl, rfl, rfl, g822, dj825, -⟩
                                              have hM826 : NmM I819 R0 L772 a1 gQ := NmM.kpS hM797 g822 hS778.1 ta1 (by decide +kernel) (by decide +kernel)
                                              have hS827 := hS778.tr g822 (by decide +kernel) (by decide +kernel)
                                              have c828 : I819 a1 0 = v29 := (g822.cell ta1 (by decide +kernel)).trans c779
                                              have c829 : I819 a1 1 = v33 := (g822.cell ta1 (by decide +kernel)).trans c780
                                              have hO830 : FrO 14 a1 T I0 I819 := hO781.st g822 (by decide +kernel)
                                              rcases dj825 with ⟨p831, p832, p833, p834, p835, p836, p837, p838, p839, p840, p841, p842, gl843, -⟩ | ⟨p844, p845, p846, p847, p848, -⟩ | ⟨p849, p850, p851, p852, p853, p854, -⟩
                                              · skip
                                                have hL855 := hL796.tr gl843 (by decide +kernel)
                                                have hM856 : NmM I819 R0 L821 a1 gQ := NmM.kpL hM826 gl843 hS827.1 ta1 (by decide +kernel)
                                                obtain ⟨v857, c858⟩ : ∃ v, I819 a0 13 = v := ⟨_, rfl⟩
                                                rw [c858] at p835
                                                rw [c799] at p835
                                                obtain ⟨v859, c860⟩ : ∃ v, I819 a0 9 = v := ⟨_, rfl⟩
                                                have b861 := iv15_9 hS827.1 ta0 c860
                                                rw [c860] at p836
                                                rw [c860] at p837
                                                obtain ⟨v862, c863⟩ : ∃ v, I819 a0 10 = v := ⟨_, rfl⟩
                                                have b864 := iv15_10 hS827.1 ta0 c863
                                                rw [c863] at p838
                                                obtain ⟨v865, c866⟩ : ∃ v, I819 a0 11 = v := ⟨_, rfl⟩
                                                rw [c866] at p839
                                                obtain ⟨y867, c868⟩ : ∃ v, L821 a0 15 = v := ⟨_, rfl⟩
                                                rw [c868] at p840
                                                obtain ⟨v869, c870⟩ : ∃ v, I819 a0 12 = v := ⟨_, rfl⟩
                                                rw [c870] at p841
                                                obtain ⟨v871, c872⟩ : ∃ v, I819 a0 8 = v := ⟨_, rfl⟩
                                                have b873 := iv15_8 hS827.1 ta0 c872
                                                rw [c872] at p842
                                                replace hF := hF.neg (by exact om_10ed11b5 p832)
                                                replace hP := hP.neg (by exact om_10ed11b5 p832)
                                                replace hF := hF.neg (by exact om_6dc00766 h816 h818 p833 p834)
                                                replace hP := hP.neg (by exact om_6dc00766 h816 h818 p833 p834)
                                                refine q_iast dX12_readAlp_78 (kR53 hS827.1 ta66) (ti_in (nR53 hS827.1 ta66) (by exact om_ba969cb0 h306 h385 h511 h637 h763) (by exact om_8a996ee0 h306 h385 h511 h637 h763)) hS827 ta66 (iokF rfl) rfl (by rfl) ?_
                                                intro I874 hS875 e877 f876
                                                have c878 : I874 a1 0 = v29 := (f876 _ _ (fun q => by have z := ta1; rw [q.1, ta66] at z; exact absurd z (by decide))).trans c828
                                                have c879 : I874 a1 1 = v33 := (f876 _ _ (fun q => by have z := ta1; rw [q.1, ta66] at z; exact absurd z (by decide))).trans c829
                                                have c880 : I874 a0 13 = v857 := (f876 _ _ (fun q => by have z := ta0; rw [q.1, ta66] at z; exact absurd z (by decide))).trans c858
                                                have c881 : I874 a0 9 = v859 := (f876 _ _ (fun q => by have z := ta0; rw [q.1, ta66] at z; exact absurd z (by decide))).trans c860
                                                have c882 : I874 a0 10 = v862 := (f876 _ _ (fun q => by have z := ta0; rw [q.1, ta66] at z; exact absurd z (by decide))).trans c863
                                                have c883 : I874 a0 11 = v865 := (f876 _ _ (fun q => by have z := ta0; rw [q.1, ta66] at z; exact absurd z (by decide))).trans c866
                                                have c884 : I874 a0 12 = v869 := (f876 _ _ (fun q => by have z := ta0; rw [q.1, ta66] at z; exact absurd z (by decide))).trans c870
                                                have c885 : I874 a0 8 = v871 := (f876 _ _ (fun q => by have z := ta0; rw [q.1, ta66] at z; exact absurd z (by decide))).trans c872
                                                have hO886 : FrO 14 a1 T I0 I874 := hO830.put f876 ta66 (Or.inl (by decide))
                                                have hM887 : NmM I874 R0 L821 a1 gQ := NmM.kp1 hM856 f876 ta66 rfl rfl hS827.1 ta1
                                                refine q_iincE dX12_readAlp_79 rfl (by decide) (by decide) (by intro j1 j2; exact om_32d85275 h306 h385 h511 h637 h763) ?_
                                                intro v888 h889
                                                refine tr_goto 48 dX12_readAlp_82 (by decide) ?_
                                                refine tr_iload_n dX12_readAlp_48 rfl ?_
                                                refine q_iconst dX12_readAlp_49 (by decide) ?_
                                                intro v890 h891
                                                refine q_icmp_ge 85 dX12_readAlp_50 (by decide) (fun h892 => ?_) (fun h892 => ?_)
                                                · skip
                                                  refine tr_aload_n dX12_readAlp_85 rfl ?_
                                                  refine q_getI dX12_readAlp_86 fl12_99 (kR15 hS875.1 ta0) c881 ?_
                                                  refine q_iconst dX12_readAlp_89 (by decide) ?_
                                                  intro v893 h894
                                                  refine q_icmp_ne 94 dX12_readAlp_90 (by decide) (fun h895 => ?_) (fun h895 => ?_)
                                                  · skip
                                                    refine tr_aload_n dX12_readAlp_94 rfl ?_
                                                    refine tr_getR dX12_readAlp_95 fl12_188 (kR15 hS875.1 ta0) d2 ?_
                                                    refine tr_iload_n dX12_readAlp_98 rfl ?_
                                                    refine q_putX dX12_readAlp_99 fl12_192 (kR14 hS875.1 ta1) (Or.inl rfl) hS875 ta1 (by decide +kernel) (hS875.1.putM ta1 (by exact om_eb93d8a1 h120 h122 p135 p139 p140)) ?_
                                                    intro I896 hS897 e898 f899
                                                    have c900 : I896 a1 1 = v33 := (f899 _ _ (fun q => absurd q.2 (by decide))).trans c879
                                                    have c901 : I896 a0 13 = v857 := (f899 _ _ (fun q => absurd q.2 (by decide))).trans c880
                                                    have c902 : I896 a0 9 = v859 := (f899 _ _ (fun q => absurd q.2 (by decide))).trans c881
                                                    have c903 : I896 a0 10 = v862 := (f899 _ _ (fun q => absurd q.2 (by decide))).trans c882
                                                    have c904 : I896 a0 11 = v865 := (f899 _ _ (fun q => absurd q.2 (by decide))).trans c883
                                                    have c905 : I896 a0 12 = v869 := (f899 _ _ (fun q => absurd q.2 (by decide))).trans c884
                                                    have c906 : I896 a0 8 = v871 := (f899 _ _ (fun q => absurd q.2 (by decide))).trans c885
                                                    have hO907 : FrO 14 a1 T I0 I896 := hO886.put f899 ta1 (Or.inr rfl)
                                                    have hM908 : NmM I896 R0 L821 a1 gQ := NmM.kp1 hM887 f899 ta1 rfl rfl hS875.1 ta1
                                                    refine tr_aload_n dX12_readAlp_102 rfl ?_
                                                    refine tr_getR dX12_readAlp_103 fl12_188 (kR15 hS897.1 ta0) d2 ?_
                                                    refine tr_iload_n dX12_readAlp_106 rfl ?_
                                                    refine q_putI dX12_readAlp_107 fl12_263 (kR14 hS897.1 ta1) (Or.inl rfl) hS897 ta1 (by show (0 : Int) ≤ v198.toInt ∧ v198.toInt ≤ (4 : Int); exact om_99c4d7de h190 h192 p205 p209 p210) rfl (by decide +kernel) ?_
                                                    intro I909 hS910 e911 f912
                                                    have c913 : I909 a0 13 = v857 := (f912 _ _ (fun q => absurd q.2 (by decide))).trans c901
                                                    have c914 : I909 a0 9 = v859 := (f912 _ _ (fun q => absurd q.2 (by decide))).trans c902
                                                    have c915 : I909 a0 10 = v862 := (f912 _ _ (fun q => absurd q.2 (by decide))).trans c903
                                                    have c916 : I909 a0 11 = v865 := (f912 _ _ (fun q => absurd q.2 (by decide))).trans c904
                                                    have c917 : I909 a0 12 = v869 := (f912 _ _ (fun q => absurd q.2 (by decide))).trans c905
                                                    have c918 : I909 a0 8 = v871 := (f912 _ _ (fun q => absurd q.2 (by decide))).trans c906
                                                    have c919 : I909 a1 0 = v128 := (f912 _ _ (fun q => absurd q.2 (by decide))).trans e898
                                                    have hO920 : FrO 14 a1 T I0 I909 := hO907.put f912 ta1 (Or.inr rfl)
                                                    have hM921 : NmM I909 R0 L821 a1 gQ := NmM.kp1 hM908 f912 ta1 rfl rfl hS897.1 ta1
                                                    have eF := hF.eq
                                                    have eP := hP.eq
                                                    obtain ⟨v922, c923⟩ : ∃ v, I909 a0 14 = v := ⟨_, rfl⟩
                                                    exact tr_vret hZ dX12_readAlp_110 rfl (by decide) (by decide) ⟨rfl, rfl, rfl, rfl, rfl, hS910, (fun b hb => (Option.some.inj (d2.symm.trans hb)) ▸ (((((((((((((((((((((FrM.rf (R := R0) (b := a1) (T := T)).st g74 (by decide +kernel)).st g126 (by decide +kernel)).st g196 (by decide +kernel)).st g262 (by decide +kernel)).st g318 (by decide +kernel)).pu f372 (by decide) (by decide) d67).st g395 (by decide +kernel)).st g444 (by decide +kernel)).pu f498 (by decide) (by decide) d67).st g521 (by decide +kernel)).st g570 (by decide +kernel)).pu f624 (by decide) (by decide) d67).st g647 (by decide +kernel)).st g696 (by decide +kernel)).pu f750 (by decide) (by decide) d67).st g773 (by decide +kernel)).st g822 (by decide +kernel)).pu f876 (by decide) (by decide) d67).put f899 ta1 (by decide)).put f912 ta1 (by decide))), (fun dr hd => (Option.some.inj (d2.symm.trans hd)) ▸ hO920), (Or.inl ⟨(by (try rw [w109]); first | done | with_reducible assumption | omega), (fun q0 z0 => by obtain rfl := Option.some.inj ((d2).symm.trans z0); (try rw [w109]); (try rw [c919]); first | done | with_reducible assumption | exact om_008feaf9 w110 p135), (fun q0 z0 => by obtain rfl := Option.some.inj ((d2).symm.trans z0); (try rw [w109]); (try rw [e911]); first | done | with_reducible assumption | exact om_008feaf9 w111 p205), (fun q0 z0 => by obtain rfl := Option.some.inj ((d2).symm.trans z0); (try rw [w109]); (try rw [((hS910.cell ta1 (by decide +kernel)).trans c38)]); first | done | with_reducible assumption | exact om_2757374c p40 w112), (fun q0 z0 => by obtain rfl := Option.some.inj ((d2).symm.trans z0); (try rw [w109]); (try rw [((hS910.cell ta1 (by decide +kernel)).trans c42)]); first | done | with_reducible assumption | exact om_2757374c p44 w113), (fun q0 z0 => by obtain rfl := Option.some.inj ((d2).symm.trans z0); (try rw [w109]); (try rw [((hS910.cell ta1 (by decide +kernel)).trans c46)]); first | done | with_reducible assumption | exact om_2757374c p48 w114), (fun q0 z0 => by obtain rfl := Option.some.inj ((d2).symm.trans z0); (try rw [w109]); (try rw [((hS910.cell ta1 (by decide +kernel)).trans c50)]); first | done | with_reducible assumption | exact om_2757374c p52 w115), (fun q0 z0 => by obtain rfl := Option.some.inj ((d2).symm.trans z0); (try rw [w109]); (try rw [((hS910.cell ta1 (by decide +kernel)).trans c54)]); first | done | with_reducible assumption | exact om_2757374c p56 w116), (fun q0 z0 => by obtain rfl := Option.some.inj ((d2).symm.trans z0); (try rw [w109]); (try rw [((hS910.cell ta1 (by decide +kernel)).trans c58)]); first | done | with_reducible assumption | exact om_2757374c p60 w118), (by (try rw [w109]); (try rw [c913]); (try rw [c65]); first | done | with_reducible assumption | exact om_4abbd0da p141 p211 p273 p331 p405 p457 p531 p583 p657 p709 p783 p835), (by (try rw [w109]); (try rw [c914]); first | done | with_reducible assumption | omega), (by (try rw [w109]); (try rw [c914]); first | done | with_reducible assumption | omega), (by (try rw [w109]); (try rw [c915]); first | done | with_reducible assumption | omega), (by (try rw [w109]); (try rw [c916]); first | done | with_reducible assumption | omega), (by (try rw [w109]); (try rw [c868]); first | done | assumption), (by (try rw [w109]); (try rw [c917]); first | done | assumption), (by (try rw [w109]); (try rw [c918]); first | done | assumption), hL855, (fun b hb => (Option.some.inj (d2.symm.trans hb)) ▸ NmM.ln (NmM.bd (k := srt gB gs) hM921 (by exact om_a1298bba pre18) (by exact om_c1f188f9 pre18)) rfl), (fun E b hb hE => by obtain rfl := Option.some.inj (d2.symm.trans hb); exact AlM.al hE hW0 ta1 (by exact om_e3967f06 p63) (hS910.cell ta1 (by decide +kernel)) (RoF.st (ex := xr 53 53) hS910 (by decide +kernel)) (fun a ha j hj => by obtain rfl := Option.some.inj (d67.symm.trans ha); exact match j, hj with | 0, _ => (by have z := (Eq.trans ((f912 _ _ (fun q => by have z := ta66; rw [q.1, ta1] at z; exact absurd z (by decide))).trans ((f899 _ _ (fun q => by have z := ta66; rw [q.1, ta1] at z; exact absurd z (by decide))).trans ((f876 _ _ (fun q => by have z1 := q.2; have z2 := ti_nat (i := v305) (by exact om_d99fa9e4 h306); have z3 := ti_nat (i := v762) (by exact om_ba969cb0 h306 h385 h511 h637 h763); exact om_18946723 h306 h385 h511 h637 h763 q.2 z2 z3)).trans ((g822.cell ta66 (wm_no (by decide +kernel))).trans ((g773.cell ta66 (wm_no (by decide +kernel))).trans ((f750 _ _ (fun q => by have z1 := q.2; have z2 := ti_nat (i := v305) (by exact om_d99fa9e4 h306); have z3 := ti_nat (i := v636) (by exact om_5b4fddb5 h306 h385 h511 h637); exact om_3dcad081 h306 h385 h511 h637 q.2 z2 z3)).trans ((g696.cell ta66 (wm_no (by decide +kernel))).trans ((g647.cell ta66 (wm_no (by decide +kernel))).trans ((f624 _ _ (fun q => by have z1 := q.2; have z2 := ti_nat (i := v305) (by exact om_d99fa9e4 h306); have z3 := ti_nat (i := v510) (by exact om_70533a47 h306 h385 h511); exact om_138a7e07 h306 h385 h511 q.2 z2 z3)).trans ((g570.cell ta66 (wm_no (by decide +kernel))).trans ((g521.cell ta66 (wm_no (by decide +kernel))).trans ((f498 _ _ (fun q => by have z1 := q.2; have z2 := ti_nat (i := v305) (by exact om_d99fa9e4 h306); have z3 := ti_nat (i := v384) (by exact om_402918db h306 h385); exact om_bac44598 h306 h385 q.2 z2 z3)).trans ((g444.cell ta66 (wm_no (by decide +kernel))).trans (g395.cell ta66 (wm_no (by decide +kernel)))))))))))))))) e373); rw [show v305.toNatClampNeg = 0 from ti_cl (by exact om_71345643 h306)] at z; rw [z]; show _ = tkV gB (tkN gB (tkN gB (tkN gB (tkN gB (tkN gB (tkN gB gs)))))); exact om_acd7a85a p327) | 1, _ => (by have z := (Eq.trans ((f912 _ _ (fun q => by have z := ta66; rw [q.1, ta1] at z; exact absurd z (by decide))).trans ((f899 _ _ (fun q => by have z := ta66; rw [q.1, ta1] at z; exact absurd z (by decide))).trans ((f876 _ _ (fun q => by have z1 := q.2; have z2 := ti_nat (i := v384) (by exact om_402918db h306 h385); have z3 := ti_nat (i := v762) (by exact om_ba969cb0 h306 h385 h511 h637 h763); exact om_77b93181 h306 h385 h511 h637 h763 q.2 z2 z3)).trans ((g822.cell ta66 (wm_no (by decide +kernel))).trans ((g773.cell ta66 (wm_no (by decide +kernel))).trans ((f750 _ _ (fun q => by have z1 := q.2; have z2 := ti_nat (i := v384) (by exact om_402918db h306 h385); have z3 := ti_nat (i := v636) (by exact om_5b4fddb5 h306 h385 h511 h637); exact om_a672aedf h306 h385 h511 h637 q.2 z2 z3)).trans ((g696.cell ta66 (wm_no (by decide +kernel))).trans ((g647.cell ta66 (wm_no (by decide +kernel))).trans ((f624 _ _ (fun q => by have z1 := q.2; have z2 := ti_nat (i := v384) (by exact om_402918db h306 h385); have z3 := ti_nat (i := v510) (by exact om_70533a47 h306 h385 h511); exact om_6545187d h306 h385 h511 q.2 z2 z3)).trans ((g570.cell ta66 (wm_no (by decide +kernel))).trans (g521.cell ta66 (wm_no (by decide +kernel))))))))))))) e499); rw [show v384.toNatClampNeg = 1 from ti_cl (by exact om_bd57e3f3 h306 h385)] at z; rw [z]; show _ = tkV gB (tkN gB (tkN gB (tkN gB (tkN gB (tkN gB (tkN gB (tkN gB (tkN gB gs)))))))); exact om_acd7a85a p453) | 2, _ => (by have z := (Eq.trans ((f912 _ _ (fun q => by have z := ta66; rw [q.1, ta1] at z; exact absurd z (by decide))).trans ((f899 _ _ (fun q => by have z := ta66; rw [q.1, ta1] at z; exact absurd z (by decide))).trans ((f876 _ _ (fun q => by have z1 := q.2; have z2 := ti_nat (i := v510) (by exact om_70533a47 h306 h385 h511); have z3 := ti_nat (i := v762) (by exact om_ba969cb0 h306 h385 h511 h637 h763); exact om_b7a07956 h306 h385 h511 h637 h763 q.2 z2 z3)).trans ((g822.cell ta66 (wm_no (by decide +kernel))).trans ((g773.cell ta66 (wm_no (by decide +kernel))).trans ((f750 _ _ (fun q => by have z1 := q.2; have z2 := ti_nat (i := v510) (by exact om_70533a47 h306 h385 h511); have z3 := ti_nat (i := v636) (by exact om_5b4fddb5 h306 h385 h511 h637); exact om_cebb3ed9 h306 h385 h511 h637 q.2 z2 z3)).trans ((g696.cell ta66 (wm_no (by decide +kernel))).trans (g647.cell ta66 (wm_no (by decide +kernel)))))))))) e625); rw [show v510.toNatClampNeg = 2 from ti_cl (by exact om_b0625356 h306 h385 h511)] at z; rw [z]; show _ = tkV gB (tkN gB (tkN gB (tkN gB (tkN gB (tkN gB (tkN gB (tkN gB (tkN gB (tkN gB (tkN gB gs)))))))))); exact om_acd7a85a p579) | 3, _ => (by have z := (Eq.trans ((f912 _ _ (fun q => by have z := ta66; rw [q.1, ta1] at z; exact absurd z (by decide))).trans ((f899 _ _ (fun q => by have z := ta66; rw [q.1, ta1] at z; exact absurd z (by decide))).trans ((f876 _ _ (fun q => by have z1 := q.2; have z2 := ti_nat (i := v636) (by exact om_5b4fddb5 h306 h385 h511 h637); have z3 := ti_nat (i := v762) (by exact om_ba969cb0 h306 h385 h511 h637 h763); exact om_93db6b1a h306 h385 h511 h637 h763 q.2 z2 z3)).trans ((g822.cell ta66 (wm_no (by decide +kernel))).trans (g773.cell ta66 (wm_no (by decide +kernel))))))) e751); rw [show v636.toNatClampNeg = 3 from ti_cl (by exact om_d6b9e842 h306 h385 h511 h637)] at z; rw [z]; show _ = tkV gB (tkN gB (tkN gB (tkN gB (tkN gB (tkN gB (tkN gB (tkN gB (tkN gB (tkN gB (tkN gB (tkN gB (tkN gB gs)))))))))))); exact om_acd7a85a p705) | 4, _ => (by have z := (Eq.trans ((f912 _ _ (fun q => by have z := ta66; rw [q.1, ta1] at z; exact absurd z (by decide))).trans (f899 _ _ (fun q => by have z := ta66; rw [q.1, ta1] at z; exact absurd z (by decide)))) e877); rw [show v762.toNatClampNeg = 4 from ti_cl (by exact om_8bf4621c h306 h385 h511 h637 h763)] at z; rw [z]; show _ = tkV gB (tkN gB (tkN gB (tkN gB (tkN gB (tkN gB (tkN gB (tkN gB (tkN gB (tkN gB (tkN gB (tkN gB (tkN gB (tkN gB (tkN gB gs)))))))))))))); exact om_acd7a85a p831) | j + 5, h => absurd h (by exact om_319befbc h))), trivial⟩), trivial⟩
                                                  · skip
                                                    exfalso; exact om_99cda0b7 p837 p836 b861.1 h894 h895
                                                · skip
                                                  exfalso; exact om_87efa96a h306 h385 h511 h637 h763 h889 h891 h892
                                              · skip
                                                obtain ⟨v924, c925⟩ : ∃ v, I819 a0 9 = v := ⟨_, rfl⟩
                                                have b926 := iv15_9 hS827.1 ta0 c925
                                                rw [c925] at p846
                                                obtain ⟨v927, c928⟩ : ∃ v, I819 a0 13 = v := ⟨_, rfl⟩
                                                rw [c928] at p847
                                                obtain ⟨v929, c930⟩ : ∃ v, I819 a0 14 = v := ⟨_, rfl⟩
                                                rw [c930] at p848
                                                replace hF := hF.pos (by exact om_73cc8e29 p845)
                                                replace hP := hP.pos (by exact om_73cc8e29 p845)
                                                refine q_iast dX12_readAlp_78 (kR53 hS827.1 ta66) (ti_in (nR53 hS827.1 ta66) (by exact om_ba969cb0 h306 h385 h511 h637 h763) (by exact om_8a996ee0 h306 h385 h511 h637 h763)) hS827 ta66 (iokF rfl) rfl (by rfl) ?_
                                                intro I931 hS932 e934 f933
                                                have c935 : I931 a1 0 = v29 := (f933 _ _ (fun q => by have z := ta1; rw [q.1, ta66] at z; exact absurd z (by decide))).trans c828
                                                have c936 : I931 a1 1 = v33 := (f933 _ _ (fun q => by have z := ta1; rw [q.1, ta66] at z; exact absurd z (by decide))).trans c829
                                                have c937 : I931 a0 9 = v924 := (f933 _ _ (fun q => by have z := ta0; rw [q.1, ta66] at z; exact absurd z (by decide))).trans c925
                                                have c938 : I931 a0 13 = v927 := (f933 _ _ (fun q => by have z := ta0; rw [q.1, ta66] at z; exact absurd z (by decide))).trans c928
                                                have c939 : I931 a0 14 = v929 := (f933 _ _ (fun q => by have z := ta0; rw [q.1, ta66] at z; exact absurd z (by decide))).trans c930
                                                have hO940 : FrO 14 a1 T I0 I931 := hO830.put f933 ta66 (Or.inl (by decide))
                                                refine q_iincE dX12_readAlp_79 rfl (by decide) (by decide) (by intro j1 j2; exact om_32d85275 h306 h385 h511 h637 h763) ?_
                                                intro v941 h942
                                                refine tr_goto 48 dX12_readAlp_82 (by decide) ?_
                                                refine sf_oA48_5 hE hZ hS932.1 (gB) ta0 (by exact om_797461a0 h306 h385 h511 h637 h763 h942) (by (try rw [c937]); first | done | with_reducible assumption | omega) ⟨_, d2⟩ rfl rfl rfl rfl ?_
                                                rintro I943 R944 L945 ⟨g946, p947, p948, p949, rp950, -⟩
                                                obtain rfl : R0 = R944 := funext fun a => funext fun j => (g946.2.2 a j (wm_no rfl)).symm
                                                have hS951 := hS932.tr g946 (by decide +kernel) (by decide +kernel)
                                                have c952 : I943 a1 0 = v29 := (g946.cell ta1 (by decide +kernel)).trans c935
                                                have c953 : I943 a1 1 = v33 := (g946.cell ta1 (by decide +kernel)).trans c936
                                                have c954 : I943 a0 9 = v924 := (g946.cell ta0 (by decide +kernel)).trans c937
                                                have c955 : I943 a0 13 = v927 := (g946.cell ta0 (by decide +kernel)).trans c938
                                                have c956 : I943 a0 14 = v929 := (g946.cell ta0 (by decide +kernel)).trans c939
                                                have hO957 : FrO 14 a1 T I0 I943 := hO940.st g946 (by decide +kernel)
                                                rw [c954] at p947
                                                rw [c955] at p948
                                                rw [c938] at p948
                                                rw [c956] at p949
                                                rw [c939] at p949
                                                have eF := hF.eq
                                                have eP := hP.eq
                                                obtain ⟨v958, c959⟩ : ∃ v, I943 a0 10 = v := ⟨_, rfl⟩
                                                have b960 := iv15_10 hS951.1 ta0 c959
                                                obtain ⟨v961, c962⟩ : ∃ v, I943 a0 11 = v := ⟨_, rfl⟩
                                                obtain ⟨y963, c964⟩ : ∃ v, L945 a0 15 = v := ⟨_, rfl⟩
                                                obtain ⟨v965, c966⟩ : ∃ v, I943 a0 12 = v := ⟨_, rfl⟩
                                                obtain ⟨v967, c968⟩ : ∃ v, I943 a0 8 = v := ⟨_, rfl⟩
                                                have b969 := iv15_8 hS951.1 ta0 c968
                                                exact ⟨rfl, rfl, rfl, rfl, rfl, hS951, (fun b hb => (Option.some.inj (d2.symm.trans hb)) ▸ ((((((((((((((((((((FrM.rf (R := R0) (b := a1) (T := T)).st g74 (by decide +kernel)).st g126 (by decide +kernel)).st g196 (by decide +kernel)).st g262 (by decide +kernel)).st g318 (by decide +kernel)).pu f372 (by decide) (by decide) d67).st g395 (by decide +kernel)).st g444 (by decide +kernel)).pu f498 (by decide) (by decide) d67).st g521 (by decide +kernel)).st g570 (by decide +kernel)).pu f624 (by decide) (by decide) d67).st g647 (by decide +kernel)).st g696 (by decide +kernel)).pu f750 (by decide) (by decide) d67).st g773 (by decide +kernel)).st g822 (by decide +kernel)).pu f933 (by decide) (by decide) d67).st g946 (by decide +kernel))), (fun dr hd => (Option.some.inj (d2.symm.trans hd)) ▸ hO957), (Or.inr (⟨(by first | done | with_reducible assumption | exact om_7fac24c5 eF), (by (try rw [c954]); first | done | with_reducible assumption | omega), (by (try rw [c955]); first | done | with_reducible assumption | exact om_3345b898 p847 eF), (by (try rw [c956]); first | done | with_reducible assumption | exact om_2757374c p848 eP), trivial⟩)), trivial⟩
                                              · skip
                                                obtain ⟨v970, c971⟩ : ∃ v, I819 a0 9 = v := ⟨_, rfl⟩
                                                have b972 := iv15_9 hS827.1 ta0 c971
                                                rw [c971] at p852
                                                obtain ⟨v973, c974⟩ : ∃ v, I819 a0 13 = v := ⟨_, rfl⟩
                                                rw [c974] at p853
                                                obtain ⟨v975, c976⟩ : ∃ v, I819 a0 14 = v := ⟨_, rfl⟩
                                                rw [c976] at p854
                                                replace hF := hF.neg (by exact om_10ed11b5 p850)
                                                replace hP := hP.neg (by exact om_10ed11b5 p850)
                                                replace hF := hF.pos (by exact om_20030929 h816 h818 p851)
                                                replace hP := hP.pos (by exact om_20030929 h816 h818 p851)
                                                refine q_iast dX12_readAlp_78 (kR53 hS827.1 ta66) (ti_in (nR53 hS827.1 ta66) (by exact om_ba969cb0 h306 h385 h511 h637 h763) (by exact om_8a996ee0 h306 h385 h511 h637 h763)) hS827 ta66 (iokF rfl) rfl (by rfl) ?_
                                                intro I977 hS978 e980 f979
                                                have c981 : I977 a1 0 = v29 := (f979 _ _ (fun q => by have z := ta1; rw [q.1, ta66] at z; exact absurd z (by decide))).trans c828
                                                have c982 : I977 a1 1 = v33 := (f979 _ _ (fun q => by have z := ta1; rw [q.1, ta66] at z; exact absurd z (by decide))).trans c829
                                                have c983 : I977 a0 9 = v970 := (f979 _ _ (fun q => by have z := ta0; rw [q.1, ta66] at z; exact absurd z (by decide))).trans c971
                                                have c984 : I977 a0 13 = v973 := (f979 _ _ (fun q => by have z := ta0; rw [q.1, ta66] at z; exact absurd z (by decide))).trans c974
                                                have c985 : I977 a0 14 = v975 := (f979 _ _ (fun q => by have z := ta0; rw [q.1, ta66] at z; exact absurd z (by decide))).trans c976
                                                have hO986 : FrO 14 a1 T I0 I977 := hO830.put f979 ta66 (Or.inl (by decide))
                                                refine q_iincE dX12_readAlp_79 rfl (by decide) (by decide) (by intro j1 j2; exact om_32d85275 h306 h385 h511 h637 h763) ?_
                                                intro v987 h988
                                                refine tr_goto 48 dX12_readAlp_82 (by decide) ?_
                                                refine sf_oA48_5 hE hZ hS978.1 (gB) ta0 (by exact om_797461a0 h306 h385 h511 h637 h763 h988) (by (try rw [c983]); first | done | with_reducible assumption | omega) ⟨_, d2⟩ rfl rfl rfl rfl ?_
                                                rintro I989 R990 L991 ⟨g992, p993, p994, p995, rp996, -⟩
                                                obtain rfl : R0 = R990 := funext fun a => funext fun j => (g992.2.2 a j (wm_no rfl)).symm
                                                have hS997 := hS978.tr g992 (by decide +kernel) (by decide +kernel)
                                                have c998 : I989 a1 0 = v29 := (g992.cell ta1 (by decide +kernel)).trans c981
                                                have c999 : I989 a1 1 = v33 := (g992.cell ta1 (by decide +kernel)).trans c982
                                                have c1000 : I989 a0 9 = v970 := (g992.cell ta0 (by decide +kernel)).trans c983
                                                have c1001 : I989 a0 13 = v973 := (g992.cell ta0 (by decide +kernel)).trans c984
                                                have c1002 : I989 a0 14 = v975 := (g992.cell ta0 (by decide +kernel)).trans c985
                                                have hO1003 : FrO 14 a1 T I0 I989 := hO986.st g992 (by decide +kernel)
                                                rw [c1000] at p993
                                                rw [c1001] at p994
                                                rw [c984] at p994
                                                rw [c1002] at p995
                                                rw [c985] at p995
                                                have eF := hF.eq
                                                have eP := hP.eq
                                                obtain ⟨v1004, c1005⟩ : ∃ v, I989 a0 10 = v := ⟨_, rfl⟩
                                                have b1006 := iv15_10 hS997.1 ta0 c1005
                                                obtain ⟨v1007, c1008⟩ : ∃ v, I989 a0 11 = v := ⟨_, rfl⟩
                                                obtain ⟨y1009, c1010⟩ : ∃ v, L991 a0 15 = v := ⟨_, rfl⟩
                                                obtain ⟨v1011, c1012⟩ : ∃ v, I989 a0 12 = v := ⟨_, rfl⟩
                                                obtain ⟨v1013, c1014⟩ : ∃ v, I989 a0 8 = v := ⟨_, rfl⟩
                                                have b1015 := iv15_8 hS997.1 ta0 c1014
                                                exact ⟨rfl, rfl, rfl, rfl, rfl, hS997, (fun b hb => (Option.some.inj (d2.symm.trans hb)) ▸ ((((((((((((((((((((FrM.rf (R := R0) (b := a1) (T := T)).st g74 (by decide +kernel)).st g126 (by decide +kernel)).st g196 (by decide +kernel)).st g262 (by decide +kernel)).st g318 (by decide +kernel)).pu f372 (by decide) (by decide) d67).st g395 (by decide +kernel)).st g444 (by decide +kernel)).pu f498 (by decide) (by decide) d67).st g521 (by decide +kernel)).st g570 (by decide +kernel)).pu f624 (by decide) (by decide) d67).st g647 (by decide +kernel)).st g696 (by decide +kernel)).pu f750 (by decide) (by decide) d67).st g773 (by decide +kernel)).st g822 (by decide +kernel)).pu f979 (by decide) (by decide) d67).st g992 (by decide +kernel))), (fun dr hd => (Option.some.inj (d2.symm.trans hd)) ▸ hO1003), (Or.inr (⟨(by first | done | with_reducible assumption | exact om_7b84bd42 eF), (by (try rw [c1000]); first | done | with_reducible assumption | omega), (by (try rw [c1001]); first | done | with_reducible assumption | exact om_46d5da87 p853 eF), (by (try rw [c1002]); first | done | with_reducible assumption | exact om_2757374c p854 eP), trivial⟩)), trivial⟩
                                            · skip
                                              obtain ⟨v1016, c1017⟩ : ∃ v, I770 a0 9 = v := ⟨_, rfl⟩
                                              have b1018 := iv15_9 hS778.1 ta0 c1017
                                              rw [c1017] at p793
                                              obtain ⟨v1019, c1020⟩ : ∃ v, I770 a0 13 = v := ⟨_, rfl⟩
                                              rw [c1020] at p794
                                              obtain ⟨v1021, c1022⟩ : ∃ v, I770 a0 14 = v := ⟨_, rfl⟩
                                              rw [c1022] at p795
                                              replace hF := hF.pos (by exact om_b7149a43 h769 p792)
                                              replace hP := hP.pos (by exact om_b7149a43 h769 p792)
                                              refine tr_aload_n dX12_readAlp_63 rfl ?_
                                              refine tr_getR dX12_readAlp_64 fl12_188 (kR15 hS778.1 ta0) d2 ?_
                                              refine tr_getR dX12_readAlp_67 fl12_260 (kR14 hS778.1 ta1) d67 ?_
                                              refine tr_iload_n dX12_readAlp_70 rfl ?_
                                              refine tr_aload_n dX12_readAlp_71 rfl ?_
                                              refine q_iconst dX12_readAlp_72 (by decide) ?_
                                              intro v1023 h1024
                                              refine q_bipush dX12_readAlp_73 (by decide +kernel) ?_
                                              intro v1025 h1026
                                              refine q_callVi hE (M' := mX12_readWhole) (as := [_, _]) dX12_readAlp_75 lk12_161 inX12_readWhole seX12_readWhole myX12_readWhole (by decide) ⟨by decide, by decide⟩ rfl (kR15 hS778.1 ta0) (Nat.le_of_ble_eq_true rfl) rfl rfl (by decide) (by decide) (k_X12_readWhole hS778.1 ta0) ?_
                                              rintro v1031 cn' K' N' I1027 R1028 L1029 ⟨rfl, rfl, rfl, rfl, g1030, p1032, w1033, -⟩
                                              have hS1034 := hS778.tr g1030 (by decide +kernel) (by decide +kernel)
                                              have c1035 : I1027 a1 0 = v29 := (g1030.cell ta1 (by decide +kernel)).trans c779
                                              have c1036 : I1027 a1 1 = v33 := (g1030.cell ta1 (by decide +kernel)).trans c780
                                              have b1037 : 0 ≤ v1031.toInt ∧ v1031.toInt ≤ 99 := by exact om_caf9e5f4 h1024 h1026 p1032
                                              clear p1032
                                              have hO1038 : FrO 14 a1 T I0 I1027 := hO781.st g1030 (by decide +kernel)
                                              have ov1039 := w1033.over (by rw [c1017]; exact om_394b70a2 p793)
                                              obtain ⟨v1040, c1041⟩ : ∃ v, I1027 a0 9 = v := ⟨_, rfl⟩
                                              have b1042 := iv15_9 hS1034.1 ta0 c1041
                                              obtain ⟨v1043, c1044⟩ : ∃ v, I1027 a0 13 = v := ⟨_, rfl⟩
                                              obtain ⟨v1045, c1046⟩ : ∃ v, I1027 a0 14 = v := ⟨_, rfl⟩
                                              (try rw [c1041] at ov1039)
                                              (try rw [c1044] at ov1039)
                                              (try rw [c1046] at ov1039)
                                              (try rw [c1017] at ov1039)
                                              (try rw [c1020] at ov1039)
                                              (try rw [c1022] at ov1039)
                                              refine q_iast dX12_readAlp_78 (kR53 hS1034.1 ta66) (ti_in (nR53 hS1034.1 ta66) (by exact om_ba969cb0 h306 h385 h511 h637 h763) (by exact om_8a996ee0 h306 h385 h511 h637 h763)) hS1034 ta66 (iokF rfl) rfl (by rfl) ?_
                                              intro I1047 hS1048 e1050 f1049
                                              have c1051 : I1047 a1 0 = v29 := (f1049 _ _ (fun q => by have z := ta1; rw [q.1, ta66] at z; exact absurd z (by decide))).trans c1035
                                              have c1052 : I1047 a1 1 = v33 := (f1049 _ _ (fun q => by have z := ta1; rw [q.1, ta66] at z; exact absurd z (by decide))).trans c1036
                                              have c1053 : I1047 a0 9 = v1040 := (f1049 _ _ (fun q => by have z := ta0; rw [q.1, ta66] at z; exact absurd z (by decide))).trans c1041
                                              have c1054 : I1047 a0 13 = v1043 := (f1049 _ _ (fun q => by have z := ta0; rw [q.1, ta66] at z; exact absurd z (by decide))).trans c1044
                                              have c1055 : I1047 a0 14 = v1045 := (f1049 _ _ (fun q => by have z := ta0; rw [q.1, ta66] at z; exact absurd z (by decide))).trans c1046
                                              have hO1056 : FrO 14 a1 T I0 I1047 := hO1038.put f1049 ta66 (Or.inl (by decide))
                                              refine q_iincE dX12_readAlp_79 rfl (by decide) (by decide) (by intro j1 j2; exact om_32d85275 h306 h385 h511 h637 h763) ?_
                                              intro v1057 h1058
                                              refine tr_goto 48 dX12_readAlp_82 (by decide) ?_
                                              refine sf_oA48_5 hE hZ hS1048.1 (gB) ta0 (by exact om_797461a0 h306 h385 h511 h637 h763 h1058) (by (try rw [c1053]); first | done | with_reducible assumption | exact om_394b70a2 ov1039.1) ⟨_, d2⟩ rfl rfl rfl rfl ?_
                                              rintro I1059 R1060 L1061 ⟨g1062, p1063, p1064, p1065, rp1066, -⟩
                                              obtain rfl : R0 = R1060 := funext fun a => funext fun j => (g1062.2.2 a j (wm_no rfl)).symm
                                              have hS1067 := hS1048.tr g1062 (by decide +kernel) (by decide +kernel)
                                              have c1068 : I1059 a1 0 = v29 := (g1062.cell ta1 (by decide +kernel)).trans c1051
                                              have c1069 : I1059 a1 1 = v33 := (g1062.cell ta1 (by decide +kernel)).trans c1052
                                              have c1070 : I1059 a0 9 = v1040 := (g1062.cell ta0 (by decide +kernel)).trans c1053
                                              have c1071 : I1059 a0 13 = v1043 := (g1062.cell ta0 (by decide +kernel)).trans c1054
                                              have c1072 : I1059 a0 14 = v1045 := (g1062.cell ta0 (by decide +kernel)).trans c1055
                                              have hO1073 : FrO 14 a1 T I0 I1059 := hO1056.st g1062 (by decide +kernel)
                                              rw [c1070] at p1063
                                              rw [c1071] at p1064
                                              rw [c1054] at p1064
                                              rw [c1072] at p1065
                                              rw [c1055] at p1065
                                              have eF := hF.eq
                                              have eP := hP.eq
                                              obtain ⟨v1074, c1075⟩ : ∃ v, I1059 a0 10 = v := ⟨_, rfl⟩
                                              have b1076 := iv15_10 hS1067.1 ta0 c1075
                                              obtain ⟨v1077, c1078⟩ : ∃ v, I1059 a0 11 = v := ⟨_, rfl⟩
                                              obtain ⟨y1079, c1080⟩ : ∃ v, L1061 a0 15 = v := ⟨_, rfl⟩
                                              obtain ⟨v1081, c1082⟩ : ∃ v, I1059 a0 12 = v := ⟨_, rfl⟩
                                              obtain ⟨v1083, c1084⟩ : ∃ v, I1059 a0 8 = v := ⟨_, rfl⟩
                                              have b1085 := iv15_8 hS1067.1 ta0 c1084
                                              exact ⟨rfl, rfl, rfl, rfl, rfl, hS1067, (fun b hb => (Option.some.inj (d2.symm.trans hb)) ▸ ((((((((((((((((((((FrM.rf (R := R0) (b := a1) (T := T)).st g74 (by decide +kernel)).st g126 (by decide +kernel)).st g196 (by decide +kernel)).st g262 (by decide +kernel)).st g318 (by decide +kernel)).pu f372 (by decide) (by decide) d67).st g395 (by decide +kernel)).st g444 (by decide +kernel)).pu f498 (by decide) (by decide) d67).st g521 (by decide +kernel)).st g570 (by decide +kernel)).pu f624 (by decide) (by decide) d67).st g647 (by decide +kernel)).st g696 (by decide +kernel)).pu f750 (by decide) (by decide) d67).st g773 (by decide +kernel)).st g1030 (by decide +kernel)).pu f1049 (by decide) (by decide) d67).st g1062 (by decide +kernel))), (fun dr hd => (Option.some.inj (d2.symm.trans hd)) ▸ hO1073), (Or.inr (⟨(by first | done | with_reducible assumption | exact om_7fac24c5 eF), (by (try rw [c1070]); first | done | with_reducible assumption | omega), (by (try rw [c1071]); first | done | with_reducible assumption | exact om_9adad658 p794 ov1039.2.1 eF), (by (try rw [c1072]); first | done | with_reducible assumption | exact om_3998a42e p795 ov1039.2.2 eP), trivial⟩)), trivial⟩
                                      · skip
                                        obtain ⟨v1086, c1087⟩ : ∃ v, I693 a0 9 = v := ⟨_, rfl⟩
                                        have b1088 := iv15_9 hS701.1 ta0 c1087
                                        rw [c1087] at p720
                                        obtain ⟨v1089, c1090⟩ : ∃ v, I693 a0 13 = v := ⟨_, rfl⟩
                                        rw [c1090] at p721
                                        obtain ⟨v1091, c1092⟩ : ∃ v, I693 a0 14 = v := ⟨_, rfl⟩
                                        rw [c1092] at p722
                                        replace hF := hF.pos (by exact om_73cc8e29 p719)
                                        replace hP := hP.pos (by exact om_73cc8e29 p719)
                                        refine q_iast dX12_readAlp_78 (kR53 hS701.1 ta66) (ti_in (nR53 hS701.1 ta66) (by exact om_5b4fddb5 h306 h385 h511 h637) (by exact om_7bfe2d13 h306 h385 h511 h637)) hS701 ta66 (iokF rfl) rfl (by rfl) ?_
                                        intro I1093 hS1094 e1096 f1095
                                        have c1097 : I1093 a1 0 = v29 := (f1095 _ _ (fun q => by have z := ta1; rw [q.1, ta66] at z; exact absurd z (by decide))).trans c702
                                        have c1098 : I1093 a1 1 = v33 := (f1095 _ _ (fun q => by have z := ta1; rw [q.1, ta66] at z; exact absurd z (by decide))).trans c703
                                        have c1099 : I1093 a0 9 = v1086 := (f1095 _ _ (fun q => by have z := ta0; rw [q.1, ta66] at z; exact absurd z (by decide))).trans c1087
                                        have c1100 : I1093 a0 13 = v1089 := (f1095 _ _ (fun q => by have z := ta0; rw [q.1, ta66] at z; exact absurd z (by decide))).trans c1090
                                        have c1101 : I1093 a0 14 = v1091 := (f1095 _ _ (fun q => by have z := ta0; rw [q.1, ta66] at z; exact absurd z (by decide))).trans c1092
                                        have hO1102 : FrO 14 a1 T I0 I1093 := hO704.put f1095 ta66 (Or.inl (by decide))
                                        refine q_iincE dX12_readAlp_79 rfl (by decide) (by decide) (by intro j1 j2; exact om_3ce631fb h306 h385 h511 h637) ?_
                                        intro v1103 h1104
                                        refine tr_goto 48 dX12_readAlp_82 (by decide) ?_
                                        refine sf_oA48_4 hE hZ hS1094.1 (gB) ta0 (by exact om_83f9d7cd h306 h385 h511 h637 h1104) (by (try rw [c1099]); first | done | with_reducible assumption | omega) ⟨_, d2⟩ rfl rfl rfl rfl ?_
                                        rintro I1105 R1106 L1107 ⟨g1108, p1109, p1110, p1111, rp1112, -⟩
                                        obtain rfl : R0 = R1106 := funext fun a => funext fun j => (g1108.2.2 a j (wm_no rfl)).symm
                                        have hS1113 := hS1094.tr g1108 (by decide +kernel) (by decide +kernel)
                                        have c1114 : I1105 a1 0 = v29 := (g1108.cell ta1 (by decide +kernel)).trans c1097
                                        have c1115 : I1105 a1 1 = v33 := (g1108.cell ta1 (by decide +kernel)).trans c1098
                                        have hO1116 : FrO 14 a1 T I0 I1105 := hO1102.st g1108 (by decide +kernel)
                                        obtain ⟨v1117, c1118⟩ : ∃ v, I1105 a0 9 = v := ⟨_, rfl⟩
                                        have b1119 := iv15_9 hS1113.1 ta0 c1118
                                        rw [c1118] at p1109
                                        obtain ⟨v1120, c1121⟩ : ∃ v, I1105 a0 13 = v := ⟨_, rfl⟩
                                        rw [c1121] at p1110
                                        rw [c1100] at p1110
                                        obtain ⟨v1122, c1123⟩ : ∃ v, I1105 a0 14 = v := ⟨_, rfl⟩
                                        rw [c1123] at p1111
                                        rw [c1101] at p1111
                                        have eF := hF.eq
                                        have eP := hP.eq
                                        obtain ⟨v1124, c1125⟩ : ∃ v, I1105 a0 10 = v := ⟨_, rfl⟩
                                        have b1126 := iv15_10 hS1113.1 ta0 c1125
                                        obtain ⟨v1127, c1128⟩ : ∃ v, I1105 a0 11 = v := ⟨_, rfl⟩
                                        obtain ⟨y1129, c1130⟩ : ∃ v, L1107 a0 15 = v := ⟨_, rfl⟩
                                        obtain ⟨v1131, c1132⟩ : ∃ v, I1105 a0 12 = v := ⟨_, rfl⟩
                                        obtain ⟨v1133, c1134⟩ : ∃ v, I1105 a0 8 = v := ⟨_, rfl⟩
                                        have b1135 := iv15_8 hS1113.1 ta0 c1134
                                        exact ⟨rfl, rfl, rfl, rfl, rfl, hS1113, (fun b hb => (Option.some.inj (d2.symm.trans hb)) ▸ (((((((((((((((((FrM.rf (R := R0) (b := a1) (T := T)).st g74 (by decide +kernel)).st g126 (by decide +kernel)).st g196 (by decide +kernel)).st g262 (by decide +kernel)).st g318 (by decide +kernel)).pu f372 (by decide) (by decide) d67).st g395 (by decide +kernel)).st g444 (by decide +kernel)).pu f498 (by decide) (by decide) d67).st g521 (by decide +kernel)).st g570 (by decide +kernel)).pu f624 (by decide) (by decide) d67).st g647 (by decide +kernel)).st g696 (by decide +kernel)).pu f1095 (by decide) (by decide) d67).tr (rp1112 _ d2))), (fun dr hd => (Option.some.inj (d2.symm.trans hd)) ▸ hO1116), (Or.inr (⟨(by first | done | with_reducible assumption | exact om_7fac24c5 eF), (by (try rw [c1118]); first | done | with_reducible assumption | omega), (by (try rw [c1121]); first | done | with_reducible assumption | exact om_9adad658 p721 p1110 eF), (by (try rw [c1123]); first | done | with_reducible assumption | exact om_3998a42e p722 p1111 eP), trivial⟩)), trivial⟩
                                      · skip
                                        obtain ⟨v1136, c1137⟩ : ∃ v, I693 a0 9 = v := ⟨_, rfl⟩
                                        have b1138 := iv15_9 hS701.1 ta0 c1137
                                        rw [c1137] at p726
                                        obtain ⟨v1139, c1140⟩ : ∃ v, I693 a0 13 = v := ⟨_, rfl⟩
                                        rw [c1140] at p727
                                        obtain ⟨v1141, c1142⟩ : ∃ v, I693 a0 14 = v := ⟨_, rfl⟩
                                        rw [c1142] at p728
                                        replace hF := hF.neg (by exact om_10ed11b5 p724)
                                        replace hP := hP.neg (by exact om_10ed11b5 p724)
                                        replace hF := hF.pos (by exact om_20030929 h690 h692 p725)
                                        replace hP := hP.pos (by exact om_20030929 h690 h692 p725)
                                        refine q_iast dX12_readAlp_78 (kR53 hS701.1 ta66) (ti_in (nR53 hS701.1 ta66) (by exact om_5b4fddb5 h306 h385 h511 h637) (by exact om_7bfe2d13 h306 h385 h511 h637)) hS701 ta66 (iokF rfl) rfl (by rfl) ?_
                                        intro I1143 hS1144 e1146 f1145
                                        have c1147 : I1143 a1 0 = v29 := (f1145 _ _ (fun q => by have z := ta1; rw [q.1, ta66] at z; exact absurd z (by decide))).trans c702
                                        have c1148 : I1143 a1 1 = v33 := (f1145 _ _ (fun q => by have z := ta1; rw [q.1, ta66] at z; exact absurd z (by decide))).trans c703
                                        have c1149 : I1143 a0 9 = v1136 := (f1145 _ _ (fun q => by have z := ta0; rw [q.1, ta66] at z; exact absurd z (by decide))).trans c1137
                                        have c1150 : I1143 a0 13 = v1139 := (f1145 _ _ (fun q => by have z := ta0; rw [q.1, ta66] at z; exact absurd z (by decide))).trans c1140
                                        have c1151 : I1143 a0 14 = v1141 := (f1145 _ _ (fun q => by have z := ta0; rw [q.1, ta66] at z; exact absurd z (by decide))).trans c1142
                                        have hO1152 : FrO 14 a1 T I0 I1143 := hO704.put f1145 ta66 (Or.inl (by decide))
                                        refine q_iincE dX12_readAlp_79 rfl (by decide) (by decide) (by intro j1 j2; exact om_3ce631fb h306 h385 h511 h637) ?_
                                        intro v1153 h1154
                                        refine tr_goto 48 dX12_readAlp_82 (by decide) ?_
                                        refine sf_oA48_4 hE hZ hS1144.1 (gB) ta0 (by exact om_83f9d7cd h306 h385 h511 h637 h1154) (by (try rw [c1149]); first | done | with_reducible assumption | omega) ⟨_, d2⟩ rfl rfl rfl rfl ?_
                                        rintro I1155 R1156 L1157 ⟨g1158, p1159, p1160, p1161, rp1162, -⟩
                                        obtain rfl : R0 = R1156 := funext fun a => funext fun j => (g1158.2.2 a j (wm_no rfl)).symm
                                        have hS1163 := hS1144.tr g1158 (by decide +kernel) (by decide +kernel)
                                        have c1164 : I1155 a1 0 = v29 := (g1158.cell ta1 (by decide +kernel)).trans c1147
                                        have c1165 : I1155 a1 1 = v33 := (g1158.cell ta1 (by decide +kernel)).trans c1148
                                        have hO1166 : FrO 14 a1 T I0 I1155 := hO1152.st g1158 (by decide +kernel)
                                        obtain ⟨v1167, c1168⟩ : ∃ v, I1155 a0 9 = v := ⟨_, rfl⟩
                                        have b1169 := iv15_9 hS1163.1 ta0 c1168
                                        rw [c1168] at p1159
                                        obtain ⟨v1170, c1171⟩ : ∃ v, I1155 a0 13 = v := ⟨_, rfl⟩
                                        rw [c1171] at p1160
                                        rw [c1150] at p1160
                                        obtain ⟨v1172, c1173⟩ : ∃ v, I1155 a0 14 = v := ⟨_, rfl⟩
                                        rw [c1173] at p1161
                                        rw [c1151] at p1161
                                        have eF := hF.eq
                                        have eP := hP.eq
                                        obtain ⟨v1174, c1175⟩ : ∃ v, I1155 a0 10 = v := ⟨_, rfl⟩
                                        have b1176 := iv15_10 hS1163.1 ta0 c1175
                                        obtain ⟨v1177, c1178⟩ : ∃ v, I1155 a0 11 = v := ⟨_, rfl⟩
                                        obtain ⟨y1179, c1180⟩ : ∃ v, L1157 a0 15 = v := ⟨_, rfl⟩
                                        obtain ⟨v1181, c1182⟩ : ∃ v, I1155 a0 12 = v := ⟨_, rfl⟩
                                        obtain ⟨v1183, c1184⟩ : ∃ v, I1155 a0 8 = v := ⟨_, rfl⟩
                                        have b1185 := iv15_8 hS1163.1 ta0 c1184
                                        exact ⟨rfl, rfl, rfl, rfl, rfl, hS1163, (fun b hb => (Option.some.inj (d2.symm.trans hb)) ▸ (((((((((((((((((FrM.rf (R := R0) (b := a1) (T := T)).st g74 (by decide +kernel)).st g126 (by decide +kernel)).st g196 (by decide +kernel)).st g262 (by decide +kernel)).st g318 (by decide +kernel)).pu f372 (by decide) (by decide) d67).st g395 (by decide +kernel)).st g444 (by decide +kernel)).pu f498 (by decide) (by decide) d67).st g521 (by decide +kernel)).st g570 (by decide +kernel)).pu f624 (by decide) (by decide) d67).st g647 (by decide +kernel)).st g696 (by decide +kernel)).pu f1145 (by decide) (by decide) d67).tr (rp1162 _ d2))), (fun dr hd => (Option.some.inj (d2.symm.trans hd)) ▸ hO1166), (Or.inr (⟨(by first | done | with_reducible assumption | exact om_7b84bd42 eF), (by (try rw [c1168]); first | done | with_reducible assumption | omega), (by (try rw [c1171]); first | done | with_reducible assumption | exact om_4510ffdb p727 p1160 eF), (by (try rw [c1173]); first | done | with_reducible assumption | exact om_3998a42e p728 p1161 eP), trivial⟩)), trivial⟩
                                    · skip
                                      obtain ⟨v1186, c1187⟩ : ∃ v, I644 a0 9 = v := ⟨_, rfl⟩
                                      have b1188 := iv15_9 hS652.1 ta0 c1187
                                      rw [c1187] at p667
                                      obtain ⟨v1189, c1190⟩ : ∃ v, I644 a0 13 = v := ⟨_, rfl⟩
                                      rw [c1190] at p668
                                      obtain ⟨v1191, c1192⟩ : ∃ v, I644 a0 14 = v := ⟨_, rfl⟩
                                      rw [c1192] at p669
                                      replace hF := hF.pos (by exact om_b7149a43 h643 p666)
                                      replace hP := hP.pos (by exact om_b7149a43 h643 p666)
                                      refine tr_aload_n dX12_readAlp_63 rfl ?_
                                      refine tr_getR dX12_readAlp_64 fl12_188 (kR15 hS652.1 ta0) d2 ?_
                                      refine tr_getR dX12_readAlp_67 fl12_260 (kR14 hS652.1 ta1) d67 ?_
                                      refine tr_iload_n dX12_readAlp_70 rfl ?_
                                      refine tr_aload_n dX12_readAlp_71 rfl ?_
                                      refine q_iconst dX12_readAlp_72 (by decide) ?_
                                      intro v1193 h1194
                                      refine q_bipush dX12_readAlp_73 (by decide +kernel) ?_
                                      intro v1195 h1196
                                      refine q_callVi hE (M' := mX12_readWhole) (as := [_, _]) dX12_readAlp_75 lk12_161 inX12_readWhole seX12_readWhole myX12_readWhole (by decide) ⟨by decide, by decide⟩ rfl (kR15 hS652.1 ta0) (Nat.le_of_ble_eq_true rfl) rfl rfl (by decide) (by decide) (k_X12_readWhole hS652.1 ta0) ?_
                                      rintro v1201 cn' K' N' I1197 R1198 L1199 ⟨rfl, rfl, rfl, rfl, g1200, p1202, w1203, -⟩
                                      have hS1204 := hS652.tr g1200 (by decide +kernel) (by decide +kernel)
                                      have c1205 : I1197 a1 0 = v29 := (g1200.cell ta1 (by decide +kernel)).trans c653
                                      have c1206 : I1197 a1 1 = v33 := (g1200.cell ta1 (by decide +kernel)).trans c654
                                      have b1207 : 0 ≤ v1201.toInt ∧ v1201.toInt ≤ 99 := by exact om_caf9e5f4 h1194 h1196 p1202
                                      clear p1202
                                      have hO1208 : FrO 14 a1 T I0 I1197 := hO655.st g1200 (by decide +kernel)
                                      have ov1209 := w1203.over (by rw [c1187]; exact om_394b70a2 p667)
                                      obtain ⟨v1210, c1211⟩ : ∃ v, I1197 a0 9 = v := ⟨_, rfl⟩
                                      have b1212 := iv15_9 hS1204.1 ta0 c1211
                                      obtain ⟨v1213, c1214⟩ : ∃ v, I1197 a0 13 = v := ⟨_, rfl⟩
                                      obtain ⟨v1215, c1216⟩ : ∃ v, I1197 a0 14 = v := ⟨_, rfl⟩
                                      (try rw [c1211] at ov1209)
                                      (try rw [c1214] at ov1209)
                                      (try rw [c1216] at ov1209)
                                      (try rw [c1187] at ov1209)
                                      (try rw [c1190] at ov1209)
                                      (try rw [c1192] at ov1209)
                                      refine q_iast dX12_readAlp_78 (kR53 hS1204.1 ta66) (ti_in (nR53 hS1204.1 ta66) (by exact om_5b4fddb5 h306 h385 h511 h637) (by exact om_7bfe2d13 h306 h385 h511 h637)) hS1204 ta66 (iokF rfl) rfl (by rfl) ?_
                                      intro I1217 hS1218 e1220 f1219
                                      have c1221 : I1217 a1 0 = v29 := (f1219 _ _ (fun q => by have z := ta1; rw [q.1, ta66] at z; exact absurd z (by decide))).trans c1205
                                      have c1222 : I1217 a1 1 = v33 := (f1219 _ _ (fun q => by have z := ta1; rw [q.1, ta66] at z; exact absurd z (by decide))).trans c1206
                                      have c1223 : I1217 a0 9 = v1210 := (f1219 _ _ (fun q => by have z := ta0; rw [q.1, ta66] at z; exact absurd z (by decide))).trans c1211
                                      have c1224 : I1217 a0 13 = v1213 := (f1219 _ _ (fun q => by have z := ta0; rw [q.1, ta66] at z; exact absurd z (by decide))).trans c1214
                                      have c1225 : I1217 a0 14 = v1215 := (f1219 _ _ (fun q => by have z := ta0; rw [q.1, ta66] at z; exact absurd z (by decide))).trans c1216
                                      have hO1226 : FrO 14 a1 T I0 I1217 := hO1208.put f1219 ta66 (Or.inl (by decide))
                                      refine q_iincE dX12_readAlp_79 rfl (by decide) (by decide) (by intro j1 j2; exact om_3ce631fb h306 h385 h511 h637) ?_
                                      intro v1227 h1228
                                      refine tr_goto 48 dX12_readAlp_82 (by decide) ?_
                                      refine sf_oA48_4 hE hZ hS1218.1 (gB) ta0 (by exact om_83f9d7cd h306 h385 h511 h637 h1228) (by (try rw [c1223]); first | done | with_reducible assumption | exact om_394b70a2 ov1209.1) ⟨_, d2⟩ rfl rfl rfl rfl ?_
                                      rintro I1229 R1230 L1231 ⟨g1232, p1233, p1234, p1235, rp1236, -⟩
                                      obtain rfl : R0 = R1230 := funext fun a => funext fun j => (g1232.2.2 a j (wm_no rfl)).symm
                                      have hS1237 := hS1218.tr g1232 (by decide +kernel) (by decide +kernel)
                                      have c1238 : I1229 a1 0 = v29 := (g1232.cell ta1 (by decide +kernel)).trans c1221
                                      have c1239 : I1229 a1 1 = v33 := (g1232.cell ta1 (by decide +kernel)).trans c1222
                                      have hO1240 : FrO 14 a1 T I0 I1229 := hO1226.st g1232 (by decide +kernel)
                                      obtain ⟨v1241, c1242⟩ : ∃ v, I1229 a0 9 = v := ⟨_, rfl⟩
                                      have b1243 := iv15_9 hS1237.1 ta0 c1242
                                      rw [c1242] at p1233
                                      obtain ⟨v1244, c1245⟩ : ∃ v, I1229 a0 13 = v := ⟨_, rfl⟩
                                      rw [c1245] at p1234
                                      rw [c1224] at p1234
                                      obtain ⟨v1246, c1247⟩ : ∃ v, I1229 a0 14 = v := ⟨_, rfl⟩
                                      rw [c1247] at p1235
                                      rw [c1225] at p1235
                                      have eF := hF.eq
                                      have eP := hP.eq
                                      obtain ⟨v1248, c1249⟩ : ∃ v, I1229 a0 10 = v := ⟨_, rfl⟩
                                      have b1250 := iv15_10 hS1237.1 ta0 c1249
                                      obtain ⟨v1251, c1252⟩ : ∃ v, I1229 a0 11 = v := ⟨_, rfl⟩
                                      obtain ⟨y1253, c1254⟩ : ∃ v, L1231 a0 15 = v := ⟨_, rfl⟩
                                      obtain ⟨v1255, c1256⟩ : ∃ v, I1229 a0 12 = v := ⟨_, rfl⟩
                                      obtain ⟨v1257, c1258⟩ : ∃ v, I1229 a0 8 = v := ⟨_, rfl⟩
                                      have b1259 := iv15_8 hS1237.1 ta0 c1258
                                      exact ⟨rfl, rfl, rfl, rfl, rfl, hS1237, (fun b hb => (Option.some.inj (d2.symm.trans hb)) ▸ (((((((((((((((((FrM.rf (R := R0) (b := a1) (T := T)).st g74 (by decide +kernel)).st g126 (by decide +kernel)).st g196 (by decide +kernel)).st g262 (by decide +kernel)).st g318 (by decide +kernel)).pu f372 (by decide) (by decide) d67).st g395 (by decide +kernel)).st g444 (by decide +kernel)).pu f498 (by decide) (by decide) d67).st g521 (by decide +kernel)).st g570 (by decide +kernel)).pu f624 (by decide) (by decide) d67).st g647 (by decide +kernel)).st g1200 (by decide +kernel)).pu f1219 (by decide) (by decide) d67).tr (rp1236 _ d2))), (fun dr hd => (Option.some.inj (d2.symm.trans hd)) ▸ hO1240), (Or.inr (⟨(by first | done | with_reducible assumption | exact om_7fac24c5 eF), (by (try rw [c1242]); first | done | with_reducible assumption | omega), (by (try rw [c1245]); first | done | with_reducible assumption | exact om_93aef1c0 p668 ov1209.2.1 p1234 eF), (by (try rw [c1247]); first | done | with_reducible assumption | exact om_3efc13ef p669 ov1209.2.2 p1235 eP), trivial⟩)), trivial⟩
                              · skip
                                obtain ⟨v1260, c1261⟩ : ∃ v, I567 a0 9 = v := ⟨_, rfl⟩
                                have b1262 := iv15_9 hS575.1 ta0 c1261
                                rw [c1261] at p594
                                obtain ⟨v1263, c1264⟩ : ∃ v, I567 a0 13 = v := ⟨_, rfl⟩
                                rw [c1264] at p595
                                obtain ⟨v1265, c1266⟩ : ∃ v, I567 a0 14 = v := ⟨_, rfl⟩
                                rw [c1266] at p596
                                replace hF := hF.pos (by exact om_73cc8e29 p593)
                                replace hP := hP.pos (by exact om_73cc8e29 p593)
                                refine q_iast dX12_readAlp_78 (kR53 hS575.1 ta66) (ti_in (nR53 hS575.1 ta66) (by exact om_70533a47 h306 h385 h511) (by exact om_00d01f83 h306 h385 h511)) hS575 ta66 (iokF rfl) rfl (by rfl) ?_
                                intro I1267 hS1268 e1270 f1269
                                have c1271 : I1267 a1 0 = v29 := (f1269 _ _ (fun q => by have z := ta1; rw [q.1, ta66] at z; exact absurd z (by decide))).trans c576
                                have c1272 : I1267 a1 1 = v33 := (f1269 _ _ (fun q => by have z := ta1; rw [q.1, ta66] at z; exact absurd z (by decide))).trans c577
                                have c1273 : I1267 a0 9 = v1260 := (f1269 _ _ (fun q => by have z := ta0; rw [q.1, ta66] at z; exact absurd z (by decide))).trans c1261
                                have c1274 : I1267 a0 13 = v1263 := (f1269 _ _ (fun q => by have z := ta0; rw [q.1, ta66] at z; exact absurd z (by decide))).trans c1264
                                have c1275 : I1267 a0 14 = v1265 := (f1269 _ _ (fun q => by have z := ta0; rw [q.1, ta66] at z; exact absurd z (by decide))).trans c1266
                                have hO1276 : FrO 14 a1 T I0 I1267 := hO578.put f1269 ta66 (Or.inl (by decide))
                                refine q_iincE dX12_readAlp_79 rfl (by decide) (by decide) (by intro j1 j2; exact om_c222afaf h306 h385 h511) ?_
                                intro v1277 h1278
                                refine tr_goto 48 dX12_readAlp_82 (by decide) ?_
                                refine sf_oA48_3 hE hZ hS1268.1 (gB) ta0 (by exact om_e25ff852 h306 h385 h511 h1278) (by (try rw [c1273]); first | done | with_reducible assumption | omega) ⟨_, d2⟩ rfl rfl rfl rfl ?_
                                rintro I1279 R1280 L1281 ⟨g1282, p1283, p1284, p1285, rp1286, -⟩
                                obtain rfl : R0 = R1280 := funext fun a => funext fun j => (g1282.2.2 a j (wm_no rfl)).symm
                                have hS1287 := hS1268.tr g1282 (by decide +kernel) (by decide +kernel)
                                have c1288 : I1279 a1 0 = v29 := (g1282.cell ta1 (by decide +kernel)).trans c1271
                                have c1289 : I1279 a1 1 = v33 := (g1282.cell ta1 (by decide +kernel)).trans c1272
                                have hO1290 : FrO 14 a1 T I0 I1279 := hO1276.st g1282 (by decide +kernel)
                                obtain ⟨v1291, c1292⟩ : ∃ v, I1279 a0 9 = v := ⟨_, rfl⟩
                                have b1293 := iv15_9 hS1287.1 ta0 c1292
                                rw [c1292] at p1283
                                obtain ⟨v1294, c1295⟩ : ∃ v, I1279 a0 13 = v := ⟨_, rfl⟩
                                rw [c1295] at p1284
                                rw [c1274] at p1284
                                obtain ⟨v1296, c1297⟩ : ∃ v, I1279 a0 14 = v := ⟨_, rfl⟩
                                rw [c1297] at p1285
                                rw [c1275] at p1285
                                have eF := hF.eq
                                have eP := hP.eq
                                obtain ⟨v1298, c1299⟩ : ∃ v, I1279 a0 10 = v := ⟨_, rfl⟩
                                have b1300 := iv15_10 hS1287.1 ta0 c1299
                                obtain ⟨v1301, c1302⟩ : ∃ v, I1279 a0 11 = v := ⟨_, rfl⟩
                                obtain ⟨y1303, c1304⟩ : ∃ v, L1281 a0 15 = v := ⟨_, rfl⟩
                                obtain ⟨v1305, c1306⟩ : ∃ v, I1279 a0 12 = v := ⟨_, rfl⟩
                                obtain ⟨v1307, c1308⟩ : ∃ v, I1279 a0 8 = v := ⟨_, rfl⟩
                                have b1309 := iv15_8 hS1287.1 ta0 c1308
                                exact ⟨rfl, rfl, rfl, rfl, rfl, hS1287, (fun b hb => (Option.some.inj (d2.symm.trans hb)) ▸ ((((((((((((((FrM.rf (R := R0) (b := a1) (T := T)).st g74 (by decide +kernel)).st g126 (by decide +kernel)).st g196 (by decide +kernel)).st g262 (by decide +kernel)).st g318 (by decide +kernel)).pu f372 (by decide) (by decide) d67).st g395 (by decide +kernel)).st g444 (by decide +kernel)).pu f498 (by decide) (by decide) d67).st g521 (by decide +kernel)).st g570 (by decide +kernel)).pu f1269 (by decide) (by decide) d67).tr (rp1286 _ d2))), (fun dr hd => (Option.some.inj (d2.symm.trans hd)) ▸ hO1290), (Or.inr (⟨(by first | done | with_reducible assumption | exact om_7fac24c5 eF), (by (try rw [c1292]); first | done | with_reducible assumption | omega), (by (try rw [c1295]); first | done | with_reducible assumption | exact om_9adad658 p595 p1284 eF), (by (try rw [c1297]); first | done | with_reducible assumption | exact om_3998a42e p596 p1285 eP), trivial⟩)), trivial⟩
                              · skip
                                obtain ⟨v1310, c1311⟩ : ∃ v, I567 a0 9 = v := ⟨_, rfl⟩
                                have b1312 := iv15_9 hS575.1 ta0 c1311
                                rw [c1311] at p600
                                obtain ⟨v1313, c1314⟩ : ∃ v, I567 a0 13 = v := ⟨_, rfl⟩
                                rw [c1314] at p601
                                obtain ⟨v1315, c1316⟩ : ∃ v, I567 a0 14 = v := ⟨_, rfl⟩
                                rw [c1316] at p602
                                replace hF := hF.neg (by exact om_10ed11b5 p598)
                                replace hP := hP.neg (by exact om_10ed11b5 p598)
                                replace hF := hF.pos (by exact om_20030929 h564 h566 p599)
                                replace hP := hP.pos (by exact om_20030929 h564 h566 p599)
                                refine q_iast dX12_readAlp_78 (kR53 hS575.1 ta66) (ti_in (nR53 hS575.1 ta66) (by exact om_70533a47 h306 h385 h511) (by exact om_00d01f83 h306 h385 h511)) hS575 ta66 (iokF rfl) rfl (by rfl) ?_
                                intro I1317 hS1318 e1320 f1319
                                have c1321 : I1317 a1 0 = v29 := (f1319 _ _ (fun q => by have z := ta1; rw [q.1, ta66] at z; exact absurd z (by decide))).trans c576
                                have c1322 : I1317 a1 1 = v33 := (f1319 _ _ (fun q => by have z := ta1; rw [q.1, ta66] at z; exact absurd z (by decide))).trans c577
                                have c1323 : I1317 a0 9 = v1310 := (f1319 _ _ (fun q => by have z := ta0; rw [q.1, ta66] at z; exact absurd z (by decide))).trans c1311
                                have c1324 : I1317 a0 13 = v1313 := (f1319 _ _ (fun q => by have z := ta0; rw [q.1, ta66] at z; exact absurd z (by decide))).trans c1314
                                have c1325 : I1317 a0 14 = v1315 := (f1319 _ _ (fun q => by have z := ta0; rw [q.1, ta66] at z; exact absurd z (by decide))).trans c1316
                                have hO1326 : FrO 14 a1 T I0 I1317 := hO578.put f1319 ta66 (Or.inl (by decide))
                                refine q_iincE dX12_readAlp_79 rfl (by decide) (by decide) (by intro j1 j2; exact om_c222afaf h306 h385 h511) ?_
                                intro v1327 h1328
                                refine tr_goto 48 dX12_readAlp_82 (by decide) ?_
                                refine sf_oA48_3 hE hZ hS1318.1 (gB) ta0 (by exact om_e25ff852 h306 h385 h511 h1328) (by (try rw [c1323]); first | done | with_reducible assumption | omega) ⟨_, d2⟩ rfl rfl rfl rfl ?_
                                rintro I1329 R1330 L1331 ⟨g1332, p1333, p1334, p1335, rp1336, -⟩
                                obtain rfl : R0 = R1330 := funext fun a => funext fun j => (g1332.2.2 a j (wm_no rfl)).symm
                                have hS1337 := hS1318.tr g1332 (by decide +kernel) (by decide +kernel)
                                have c1338 : I1329 a1 0 = v29 := (g1332.cell ta1 (by decide +kernel)).trans c1321
                                have c1339 : I1329 a1 1 = v33 := (g1332.cell ta1 (by decide +kernel)).trans c1322
                                have hO1340 : FrO 14 a1 T I0 I1329 := hO1326.st g1332 (by decide +kernel)
                                obtain ⟨v1341, c1342⟩ : ∃ v, I1329 a0 9 = v := ⟨_, rfl⟩
                                have b1343 := iv15_9 hS1337.1 ta0 c1342
                                rw [c1342] at p1333
                                obtain ⟨v1344, c1345⟩ : ∃ v, I1329 a0 13 = v := ⟨_, rfl⟩
                                rw [c1345] at p1334
                                rw [c1324] at p1334
                                obtain ⟨v1346, c1347⟩ : ∃ v, I1329 a0 14 = v := ⟨_, rfl⟩
                                rw [c1347] at p1335
                                rw [c1325] at p1335
                                have eF := hF.eq
                                have eP := hP.eq
                                obtain ⟨v1348, c1349⟩ : ∃ v, I1329 a0 10 = v := ⟨_, rfl⟩
                                have b1350 := iv15_10 hS1337.1 ta0 c1349
                                obtain ⟨v1351, c1352⟩ : ∃ v, I1329 a0 11 = v := ⟨_, rfl⟩
                                obtain ⟨y1353, c1354⟩ : ∃ v, L1331 a0 15 = v := ⟨_, rfl⟩
                                obtain ⟨v1355, c1356⟩ : ∃ v, I1329 a0 12 = v := ⟨_, rfl⟩
                                obtain ⟨v1357, c1358⟩ : ∃ v, I1329 a0 8 = v := ⟨_, rfl⟩
                                have b1359 := iv15_8 hS1337.1 ta0 c1358
                                exact ⟨rfl, rfl, rfl, rfl, rfl, hS1337, (fun b hb => (Option.some.inj (d2.symm.trans hb)) ▸ ((((((((((((((FrM.rf (R := R0) (b := a1) (T := T)).st g74 (by decide +kernel)).st g126 (by decide +kernel)).st g196 (by decide +kernel)).st g262 (by decide +kernel)).st g318 (by decide +kernel)).pu f372 (by decide) (by decide) d67).st g395 (by decide +kernel)).st g444 (by decide +kernel)).pu f498 (by decide) (by decide) d67).st g521 (by decide +kernel)).st g570 (by decide +kernel)).pu f1319 (by decide) (by decide) d67).tr (rp1336 _ d2))), (fun dr hd => (Option.some.inj (d2.symm.trans hd)) ▸ hO1340), (Or.inr (⟨(by first | done | with_reducible assumption | exact om_7b84bd42 eF), (by (try rw [c1342]); first | done | with_reducible assumption | omega), (by (try rw [c1345]); first | done | with_reducible assumption | exact om_4510ffdb p601 p1334 eF), (by (try rw [c1347]); first | done | with_reducible assumption | exact om_3998a42e p602 p1335 eP), trivial⟩)), trivial⟩
                            · skip
                              obtain ⟨v1360, c1361⟩ : ∃ v, I518 a0 9 = v := ⟨_, rfl⟩
                              have b1362 := iv15_9 hS526.1 ta0 c1361
                              rw [c1361] at p541
                              obtain ⟨v1363, c1364⟩ : ∃ v, I518 a0 13 = v := ⟨_, rfl⟩
                              rw [c1364] at p542
                              obtain ⟨v1365, c1366⟩ : ∃ v, I518 a0 14 = v := ⟨_, rfl⟩
                              rw [c1366] at p543
                              replace hF := hF.pos (by exact om_b7149a43 h517 p540)
                              replace hP := hP.pos (by exact om_b7149a43 h517 p540)
                              refine tr_aload_n dX12_readAlp_63 rfl ?_
                              refine tr_getR dX12_readAlp_64 fl12_188 (kR15 hS526.1 ta0) d2 ?_
                              refine tr_getR dX12_readAlp_67 fl12_260 (kR14 hS526.1 ta1) d67 ?_
                              refine tr_iload_n dX12_readAlp_70 rfl ?_
                              refine tr_aload_n dX12_readAlp_71 rfl ?_
                              refine q_iconst dX12_readAlp_72 (by decide) ?_
                              intro v1367 h1368
                              refine q_bipush dX12_readAlp_73 (by decide +kernel) ?_
                              intro v1369 h1370
                              refine q_callVi hE (M' := mX12_readWhole) (as := [_, _]) dX12_readAlp_75 lk12_161 inX12_readWhole seX12_readWhole myX12_readWhole (by decide) ⟨by decide, by decide⟩ rfl (kR15 hS526.1 ta0) (Nat.le_of_ble_eq_true rfl) rfl rfl (by decide) (by decide) (k_X12_readWhole hS526.1 ta0) ?_
                              rintro v1375 cn' K' N' I1371 R1372 L1373 ⟨rfl, rfl, rfl, rfl, g1374, p1376, w1377, -⟩
                              have hS1378 := hS526.tr g1374 (by decide +kernel) (by decide +kernel)
                              have c1379 : I1371 a1 0 = v29 := (g1374.cell ta1 (by decide +kernel)).trans c527
                              have c1380 : I1371 a1 1 = v33 := (g1374.cell ta1 (by decide +kernel)).trans c528
                              have b1381 : 0 ≤ v1375.toInt ∧ v1375.toInt ≤ 99 := by exact om_caf9e5f4 h1368 h1370 p1376
                              clear p1376
                              have hO1382 : FrO 14 a1 T I0 I1371 := hO529.st g1374 (by decide +kernel)
                              have ov1383 := w1377.over (by rw [c1361]; exact om_394b70a2 p541)
                              obtain ⟨v1384, c1385⟩ : ∃ v, I1371 a0 9 = v := ⟨_, rfl⟩
                              have b1386 := iv15_9 hS1378.1 ta0 c1385
                              obtain ⟨v1387, c1388⟩ : ∃ v, I1371 a0 13 = v := ⟨_, rfl⟩
                              obtain ⟨v1389, c1390⟩ : ∃ v, I1371 a0 14 = v := ⟨_, rfl⟩
                              (try rw [c1385] at ov1383)
                              (try rw [c1388] at ov1383)
                              (try rw [c1390] at ov1383)
                              (try rw [c1361] at ov1383)
                              (try rw [c1364] at ov1383)
                              (try rw [c1366] at ov1383)
                              refine q_iast dX12_readAlp_78 (kR53 hS1378.1 ta66) (ti_in (nR53 hS1378.1 ta66) (by exact om_70533a47 h306 h385 h511) (by exact om_00d01f83 h306 h385 h511)) hS1378 ta66 (iokF rfl) rfl (by rfl) ?_
                              intro I1391 hS1392 e1394 f1393
                              have c1395 : I1391 a1 0 = v29 := (f1393 _ _ (fun q => by have z := ta1; rw [q.1, ta66] at z; exact absurd z (by decide))).trans c1379
                              have c1396 : I1391 a1 1 = v33 := (f1393 _ _ (fun q => by have z := ta1; rw [q.1, ta66] at z; exact absurd z (by decide))).trans c1380
                              have c1397 : I1391 a0 9 = v1384 := (f1393 _ _ (fun q => by have z := ta0; rw [q.1, ta66] at z; exact absurd z (by decide))).trans c1385
                              have c1398 : I1391 a0 13 = v1387 := (f1393 _ _ (fun q => by have z := ta0; rw [q.1, ta66] at z; exact absurd z (by decide))).trans c1388
                              have c1399 : I1391 a0 14 = v1389 := (f1393 _ _ (fun q => by have z := ta0; rw [q.1, ta66] at z; exact absurd z (by decide))).trans c1390
                              have hO1400 : FrO 14 a1 T I0 I1391 := hO1382.put f1393 ta66 (Or.inl (by decide))
                              refine q_iincE dX12_readAlp_79 rfl (by decide) (by decide) (by intro j1 j2; exact om_c222afaf h306 h385 h511) ?_
                              intro v1401 h1402
                              refine tr_goto 48 dX12_readAlp_82 (by decide) ?_
                              refine sf_oA48_3 hE hZ hS1392.1 (gB) ta0 (by exact om_e25ff852 h306 h385 h511 h1402) (by (try rw [c1397]); first | done | with_reducible assumption | exact om_394b70a2 ov1383.1) ⟨_, d2⟩ rfl rfl rfl rfl ?_
                              rintro I1403 R1404 L1405 ⟨g1406, p1407, p1408, p1409, rp1410, -⟩
                              obtain rfl : R0 = R1404 := funext fun a => funext fun j => (g1406.2.2 a j (wm_no rfl)).symm
                              have hS1411 := hS1392.tr g1406 (by decide +kernel) (by decide +kernel)
                              have c1412 : I1403 a1 0 = v29 := (g1406.cell ta1 (by decide +kernel)).trans c1395
                              have c1413 : I1403 a1 1 = v33 := (g1406.cell ta1 (by decide +kernel)).trans c1396
                              have hO1414 : FrO 14 a1 T I0 I1403 := hO1400.st g1406 (by decide +kernel)
                              obtain ⟨v1415, c1416⟩ : ∃ v, I1403 a0 9 = v := ⟨_, rfl⟩
                              have b1417 := iv15_9 hS1411.1 ta0 c1416
                              rw [c1416] at p1407
                              obtain ⟨v1418, c1419⟩ : ∃ v, I1403 a0 13 = v := ⟨_, rfl⟩
                              rw [c1419] at p1408
                              rw [c1398] at p1408
                              obtain ⟨v1420, c1421⟩ : ∃ v, I1403 a0 14 = v := ⟨_, rfl⟩
                              rw [c1421] at p1409
                              rw [c1399] at p1409
                              have eF := hF.eq
                              have eP := hP.eq
                              obtain ⟨v1422, c1423⟩ : ∃ v, I1403 a0 10 = v := ⟨_, rfl⟩
                              have b1424 := iv15_10 hS1411.1 ta0 c1423
                              obtain ⟨v1425, c1426⟩ : ∃ v, I1403 a0 11 = v := ⟨_, rfl⟩
                              obtain ⟨y1427, c1428⟩ : ∃ v, L1405 a0 15 = v := ⟨_, rfl⟩
                              obtain ⟨v1429, c1430⟩ : ∃ v, I1403 a0 12 = v := ⟨_, rfl⟩
                              obtain ⟨v1431, c1432⟩ : ∃ v, I1403 a0 8 = v := ⟨_, rfl⟩
                              have b1433 := iv15_8 hS1411.1 ta0 c1432
                              exact ⟨rfl, rfl, rfl, rfl, rfl, hS1411, (fun b hb => (Option.some.inj (d2.symm.trans hb)) ▸ ((((((((((((((FrM.rf (R := R0) (b := a1) (T := T)).st g74 (by decide +kernel)).st g126 (by decide +kernel)).st g196 (by decide +kernel)).st g262 (by decide +kernel)).st g318 (by decide +kernel)).pu f372 (by decide) (by decide) d67).st g395 (by decide +kernel)).st g444 (by decide +kernel)).pu f498 (by decide) (by decide) d67).st g521 (by decide +kernel)).st g1374 (by decide +kernel)).pu f1393 (by decide) (by decide) d67).tr (rp1410 _ d2))), (fun dr hd => (Option.some.inj (d2.symm.trans hd)) ▸ hO1414), (Or.inr (⟨(by first | done | with_reducible assumption | exact om_7fac24c5 eF), (by (try rw [c1416]); first | done | with_reducible assumption | omega), (by (try rw [c1419]); first | done | with_reducible assumption | exact om_93aef1c0 p542 ov1383.2.1 p1408 eF), (by (try rw [c1421]); first | done | with_reducible assumption | exact om_3efc13ef p543 ov1383.2.2 p1409 eP), trivial⟩)), trivial⟩
                      · skip
                        obtain ⟨v1434, c1435⟩ : ∃ v, I441 a0 9 = v := ⟨_, rfl⟩
                        have b1436 := iv15_9 hS449.1 ta0 c1435
                        rw [c1435] at p468
                        obtain ⟨v1437, c1438⟩ : ∃ v, I441 a0 13 = v := ⟨_, rfl⟩
                        rw [c1438] at p469
                        obtain ⟨v1439, c1440⟩ : ∃ v, I441 a0 14 = v := ⟨_, rfl⟩
                        rw [c1440] at p470
                        replace hF := hF.pos (by exact om_73cc8e29 p467)
                        replace hP := hP.pos (by exact om_73cc8e29 p467)
                        refine q_iast dX12_readAlp_78 (kR53 hS449.1 ta66) (ti_in (nR53 hS449.1 ta66) (by exact om_402918db h306 h385) (by exact om_a7c15354 h306 h385)) hS449 ta66 (iokF rfl) rfl (by rfl) ?_
                        intro I1441 hS1442 e1444 f1443
                        have c1445 : I1441 a1 0 = v29 := (f1443 _ _ (fun q => by have z := ta1; rw [q.1, ta66] at z; exact absurd z (by decide))).trans c450
                        have c1446 : I1441 a1 1 = v33 := (f1443 _ _ (fun q => by have z := ta1; rw [q.1, ta66] at z; exact absurd z (by decide))).trans c451
                        have c1447 : I1441 a0 9 = v1434 := (f1443 _ _ (fun q => by have z := ta0; rw [q.1, ta66] at z; exact absurd z (by decide))).trans c1435
                        have c1448 : I1441 a0 13 = v1437 := (f1443 _ _ (fun q => by have z := ta0; rw [q.1, ta66] at z; exact absurd z (by decide))).trans c1438
                        have c1449 : I1441 a0 14 = v1439 := (f1443 _ _ (fun q => by have z := ta0; rw [q.1, ta66] at z; exact absurd z (by decide))).trans c1440
                        have hO1450 : FrO 14 a1 T I0 I1441 := hO452.put f1443 ta66 (Or.inl (by decide))
                        refine q_iincE dX12_readAlp_79 rfl (by decide) (by decide) (by intro j1 j2; exact om_ffa31f14 h306 h385) ?_
                        intro v1451 h1452
                        refine tr_goto 48 dX12_readAlp_82 (by decide) ?_
                        refine sf_oA48_2 hE hZ hS1442.1 (gB) ta0 (by exact om_2c07bd4a h306 h385 h1452) (by (try rw [c1447]); first | done | with_reducible assumption | omega) ⟨_, d2⟩ rfl rfl rfl rfl ?_
                        rintro I1453 R1454 L1455 ⟨g1456, p1457, p1458, p1459, rp1460, -⟩
                        obtain rfl : R0 = R1454 := funext fun a => funext fun j => (g1456.2.2 a j (wm_no rfl)).symm
                        have hS1461 := hS1442.tr g1456 (by decide +kernel) (by decide +kernel)
                        have c1462 : I1453 a1 0 = v29 := (g1456.cell ta1 (by decide +kernel)).trans c1445
                        have c1463 : I1453 a1 1 = v33 := (g1456.cell ta1 (by decide +kernel)).trans c1446
                        have hO1464 : FrO 14 a1 T I0 I1453 := hO1450.st g1456 (by decide +kernel)
                        obtain ⟨v1465, c1466⟩ : ∃ v, I1453 a0 9 = v := ⟨_, rfl⟩
                        have b1467 := iv15_9 hS1461.1 ta0 c1466
                        rw [c1466] at p1457
                        obtain ⟨v1468, c1469⟩ : ∃ v, I1453 a0 13 = v := ⟨_, rfl⟩
                        rw [c1469] at p1458
                        rw [c1448] at p1458
                        obtain ⟨v1470, c1471⟩ : ∃ v, I1453 a0 14 = v := ⟨_, rfl⟩
                        rw [c1471] at p1459
                        rw [c1449] at p1459
                        have eF := hF.eq
                        have eP := hP.eq
                        obtain ⟨v1472, c1473⟩ : ∃ v, I1453 a0 10 = v := ⟨_, rfl⟩
                        have b1474 := iv15_10 hS1461.1 ta0 c1473
                        obtain ⟨v1475, c1476⟩ : ∃ v, I1453 a0 11 = v := ⟨_, rfl⟩
                        obtain ⟨y1477, c1478⟩ : ∃ v, L1455 a0 15 = v := ⟨_, rfl⟩
                        obtain ⟨v1479, c1480⟩ : ∃ v, I1453 a0 12 = v := ⟨_, rfl⟩
                        obtain ⟨v1481, c1482⟩ : ∃ v, I1453 a0 8 = v := ⟨_, rfl⟩
                        have b1483 := iv15_8 hS1461.1 ta0 c1482
                        exact ⟨rfl, rfl, rfl, rfl, rfl, hS1461, (fun b hb => (Option.some.inj (d2.symm.trans hb)) ▸ (((((((((((FrM.rf (R := R0) (b := a1) (T := T)).st g74 (by decide +kernel)).st g126 (by decide +kernel)).st g196 (by decide +kernel)).st g262 (by decide +kernel)).st g318 (by decide +kernel)).pu f372 (by decide) (by decide) d67).st g395 (by decide +kernel)).st g444 (by decide +kernel)).pu f1443 (by decide) (by decide) d67).tr (rp1460 _ d2))), (fun dr hd => (Option.some.inj (d2.symm.trans hd)) ▸ hO1464), (Or.inr (⟨(by first | done | with_reducible assumption | exact om_7fac24c5 eF), (by (try rw [c1466]); first | done | with_reducible assumption | omega), (by (try rw [c1469]); first | done | with_reducible assumption | exact om_9adad658 p469 p1458 eF), (by (try rw [c1471]); first | done | with_reducible assumption | exact om_3998a42e p470 p1459 eP), trivial⟩)), trivial⟩
                      · skip
                        obtain ⟨v1484, c1485⟩ : ∃ v, I441 a0 9 = v := ⟨_, rfl⟩
                        have b1486 := iv15_9 hS449.1 ta0 c1485
                        rw [c1485] at p474
                        obtain ⟨v1487, c1488⟩ : ∃ v, I441 a0 13 = v := ⟨_, rfl⟩
                        rw [c1488] at p475
                        obtain ⟨v1489, c1490⟩ : ∃ v, I441 a0 14 = v := ⟨_, rfl⟩
                        rw [c1490] at p476
                        replace hF := hF.neg (by exact om_10ed11b5 p472)
                        replace hP := hP.neg (by exact om_10ed11b5 p472)
                        replace hF := hF.pos (by exact om_20030929 h438 h440 p473)
                        replace hP := hP.pos (by exact om_20030929 h438 h440 p473)
                        refine q_iast dX12_readAlp_78 (kR53 hS449.1 ta66) (ti_in (nR53 hS449.1 ta66) (by exact om_402918db h306 h385) (by exact om_a7c15354 h306 h385)) hS449 ta66 (iokF rfl) rfl (by rfl) ?_
                        intro I1491 hS1492 e1494 f1493
                        have c1495 : I1491 a1 0 = v29 := (f1493 _ _ (fun q => by have z := ta1; rw [q.1, ta66] at z; exact absurd z (by decide))).trans c450
                        have c1496 : I1491 a1 1 = v33 := (f1493 _ _ (fun q => by have z := ta1; rw [q.1, ta66] at z; exact absurd z (by decide))).trans c451
                        have c1497 : I1491 a0 9 = v1484 := (f1493 _ _ (fun q => by have z := ta0; rw [q.1, ta66] at z; exact absurd z (by decide))).trans c1485
                        have c1498 : I1491 a0 13 = v1487 := (f1493 _ _ (fun q => by have z := ta0; rw [q.1, ta66] at z; exact absurd z (by decide))).trans c1488
                        have c1499 : I1491 a0 14 = v1489 := (f1493 _ _ (fun q => by have z := ta0; rw [q.1, ta66] at z; exact absurd z (by decide))).trans c1490
                        have hO1500 : FrO 14 a1 T I0 I1491 := hO452.put f1493 ta66 (Or.inl (by decide))
                        refine q_iincE dX12_readAlp_79 rfl (by decide) (by decide) (by intro j1 j2; exact om_ffa31f14 h306 h385) ?_
                        intro v1501 h1502
                        refine tr_goto 48 dX12_readAlp_82 (by decide) ?_
                        refine sf_oA48_2 hE hZ hS1492.1 (gB) ta0 (by exact om_2c07bd4a h306 h385 h1502) (by (try rw [c1497]); first | done | with_reducible assumption | omega) ⟨_, d2⟩ rfl rfl rfl rfl ?_
                        rintro I1503 R1504 L1505 ⟨g1506, p1507, p1508, p1509, rp1510, -⟩
                        obtain rfl : R0 = R1504 := funext fun a => funext fun j => (g1506.2.2 a j (wm_no rfl)).symm
                        have hS1511 := hS1492.tr g1506 (by decide +kernel) (by decide +kernel)
                        have c1512 : I1503 a1 0 = v29 := (g1506.cell ta1 (by decide +kernel)).trans c1495
                        have c1513 : I1503 a1 1 = v33 := (g1506.cell ta1 (by decide +kernel)).trans c1496
                        have hO1514 : FrO 14 a1 T I0 I1503 := hO1500.st g1506 (by decide +kernel)
                        obtain ⟨v1515, c1516⟩ : ∃ v, I1503 a0 9 = v := ⟨_, rfl⟩
                        have b1517 := iv15_9 hS1511.1 ta0 c1516
                        rw [c1516] at p1507
                        obtain ⟨v1518, c1519⟩ : ∃ v, I1503 a0 13 = v := ⟨_, rfl⟩
                        rw [c1519] at p1508
                        rw [c1498] at p1508
                        obtain ⟨v1520, c1521⟩ : ∃ v, I1503 a0 14 = v := ⟨_, rfl⟩
                        rw [c1521] at p1509
                        rw [c1499] at p1509
                        have eF := hF.eq
                        have eP := hP.eq
                        obtain ⟨v1522, c1523⟩ : ∃ v, I1503 a0 10 = v := ⟨_, rfl⟩
                        have b1524 := iv15_10 hS1511.1 ta0 c1523
                        obtain ⟨v1525, c1526⟩ : ∃ v, I1503 a0 11 = v := ⟨_, rfl⟩
                        obtain ⟨y1527, c1528⟩ : ∃ v, L1505 a0 15 = v := ⟨_, rfl⟩
                        obtain ⟨v1529, c1530⟩ : ∃ v, I1503 a0 12 = v := ⟨_, rfl⟩
                        obtain ⟨v1531, c1532⟩ : ∃ v, I1503 a0 8 = v := ⟨_, rfl⟩
                        have b1533 := iv15_8 hS1511.1 ta0 c1532
                        exact ⟨rfl, rfl, rfl, rfl, rfl, hS1511, (fun b hb => (Option.some.inj (d2.symm.trans hb)) ▸ (((((((((((FrM.rf (R := R0) (b := a1) (T := T)).st g74 (by decide +kernel)).st g126 (by decide +kernel)).st g196 (by decide +kernel)).st g262 (by decide +kernel)).st g318 (by decide +kernel)).pu f372 (by decide) (by decide) d67).st g395 (by decide +kernel)).st g444 (by decide +kernel)).pu f1493 (by decide) (by decide) d67).tr (rp1510 _ d2))), (fun dr hd => (Option.some.inj (d2.symm.trans hd)) ▸ hO1514), (Or.inr (⟨(by first | done | with_reducible assumption | exact om_7b84bd42 eF), (by (try rw [c1516]); first | done | with_reducible assumption | omega), (by (try rw [c1519]); first | done | with_reducible assumption | exact om_4510ffdb p475 p1508 eF), (by (try rw [c1521]); first | done | with_reducible assumption | exact om_3998a42e p476 p1509 eP), trivial⟩)), trivial⟩
                    · skip
                      obtain ⟨v1534, c1535⟩ : ∃ v, I392 a0 9 = v := ⟨_, rfl⟩
                      have b1536 := iv15_9 hS400.1 ta0 c1535
                      rw [c1535] at p415
                      obtain ⟨v1537, c1538⟩ : ∃ v, I392 a0 13 = v := ⟨_, rfl⟩
                      rw [c1538] at p416
                      obtain ⟨v1539, c1540⟩ : ∃ v, I392 a0 14 = v := ⟨_, rfl⟩
                      rw [c1540] at p417
                      replace hF := hF.pos (by exact om_b7149a43 h391 p414)
                      replace hP := hP.pos (by exact om_b7149a43 h391 p414)
                      refine tr_aload_n dX12_readAlp_63 rfl ?_
                      refine tr_getR dX12_readAlp_64 fl12_188 (kR15 hS400.1 ta0) d2 ?_
                      refine tr_getR dX12_readAlp_67 fl12_260 (kR14 hS400.1 ta1) d67 ?_
                      refine tr_iload_n dX12_readAlp_70 rfl ?_
                      refine tr_aload_n dX12_readAlp_71 rfl ?_
                      refine q_iconst dX12_readAlp_72 (by decide) ?_
                      intro v1541 h1542
                      refine q_bipush dX12_readAlp_73 (by decide +kernel) ?_
                      intro v1543 h1544
                      refine q_callVi hE (M' := mX12_readWhole) (as := [_, _]) dX12_readAlp_75 lk12_161 inX12_readWhole seX12_readWhole myX12_readWhole (by decide) ⟨by decide, by decide⟩ rfl (kR15 hS400.1 ta0) (Nat.le_of_ble_eq_true rfl) rfl rfl (by decide) (by decide) (k_X12_readWhole hS400.1 ta0) ?_
                      rintro v1549 cn' K' N' I1545 R1546 L1547 ⟨rfl, rfl, rfl, rfl, g1548, p1550, w1551, -⟩
                      have hS1552 := hS400.tr g1548 (by decide +kernel) (by decide +kernel)
                      have c1553 : I1545 a1 0 = v29 := (g1548.cell ta1 (by decide +kernel)).trans c401
                      have c1554 : I1545 a1 1 = v33 := (g1548.cell ta1 (by decide +kernel)).trans c402
                      have b1555 : 0 ≤ v1549.toInt ∧ v1549.toInt ≤ 99 := by exact om_caf9e5f4 h1542 h1544 p1550
                      clear p1550
                      have hO1556 : FrO 14 a1 T I0 I1545 := hO403.st g1548 (by decide +kernel)
                      have ov1557 := w1551.over (by rw [c1535]; exact om_394b70a2 p415)
                      obtain ⟨v1558, c1559⟩ : ∃ v, I1545 a0 9 = v := ⟨_, rfl⟩
                      have b1560 := iv15_9 hS1552.1 ta0 c1559
                      obtain ⟨v1561, c1562⟩ : ∃ v, I1545 a0 13 = v := ⟨_, rfl⟩
                      obtain ⟨v1563, c1564⟩ : ∃ v, I1545 a0 14 = v := ⟨_, rfl⟩
                      (try rw [c1559] at ov1557)
                      (try rw [c1562] at ov1557)
                      (try rw [c1564] at ov1557)
                      (try rw [c1535] at ov1557)
                      (try rw [c1538] at ov1557)
                      (try rw [c1540] at ov1557)
                      refine q_iast dX12_readAlp_78 (kR53 hS1552.1 ta66) (ti_in (nR53 hS1552.1 ta66) (by exact om_402918db h306 h385) (by exact om_a7c15354 h306 h385)) hS1552 ta66 (iokF rfl) rfl (by rfl) ?_
                      intro I1565 hS1566 e1568 f1567
                      have c1569 : I1565 a1 0 = v29 := (f1567 _ _ (fun q => by have z := ta1; rw [q.1, ta66] at z; exact absurd z (by decide))).trans c1553
                      have c1570 : I1565 a1 1 = v33 := (f1567 _ _ (fun q => by have z := ta1; rw [q.1, ta66] at z; exact absurd z (by decide))).trans c1554
                      have c1571 : I1565 a0 9 = v1558 := (f1567 _ _ (fun q => by have z := ta0; rw [q.1, ta66] at z; exact absurd z (by decide))).trans c1559
                      have c1572 : I1565 a0 13 = v1561 := (f1567 _ _ (fun q => by have z := ta0; rw [q.1, ta66] at z; exact absurd z (by decide))).trans c1562
                      have c1573 : I1565 a0 14 = v1563 := (f1567 _ _ (fun q => by have z := ta0; rw [q.1, ta66] at z; exact absurd z (by decide))).trans c1564
                      have hO1574 : FrO 14 a1 T I0 I1565 := hO1556.put f1567 ta66 (Or.inl (by decide))
                      refine q_iincE dX12_readAlp_79 rfl (by decide) (by decide) (by intro j1 j2; exact om_ffa31f14 h306 h385) ?_
                      intro v1575 h1576
                      refine tr_goto 48 dX12_readAlp_82 (by decide) ?_
                      refine sf_oA48_2 hE hZ hS1566.1 (gB) ta0 (by exact om_2c07bd4a h306 h385 h1576) (by (try rw [c1571]); first | done | with_reducible assumption | exact om_394b70a2 ov1557.1) ⟨_, d2⟩ rfl rfl rfl rfl ?_
                      rintro I1577 R1578 L1579 ⟨g1580, p1581, p1582, p1583, rp1584, -⟩
                      obtain rfl : R0 = R1578 := funext fun a => funext fun j => (g1580.2.2 a j (wm_no rfl)).symm
                      have hS1585 := hS1566.tr g1580 (by decide +kernel) (by decide +kernel)
                      have c1586 : I1577 a1 0 = v29 := (g1580.cell ta1 (by decide +kernel)).trans c1569
                      have c1587 : I1577 a1 1 = v33 := (g1580.cell ta1 (by decide +kernel)).trans c1570
                      have hO1588 : FrO 14 a1 T I0 I1577 := hO1574.st g1580 (by decide +kernel)
                      obtain ⟨v1589, c1590⟩ : ∃ v, I1577 a0 9 = v := ⟨_, rfl⟩
                      have b1591 := iv15_9 hS1585.1 ta0 c1590
                      rw [c1590] at p1581
                      obtain ⟨v1592, c1593⟩ : ∃ v, I1577 a0 13 = v := ⟨_, rfl⟩
                      rw [c1593] at p1582
                      rw [c1572] at p1582
                      obtain ⟨v1594, c1595⟩ : ∃ v, I1577 a0 14 = v := ⟨_, rfl⟩
                      rw [c1595] at p1583
                      rw [c1573] at p1583
                      have eF := hF.eq
                      have eP := hP.eq
                      obtain ⟨v1596, c1597⟩ : ∃ v, I1577 a0 10 = v := ⟨_, rfl⟩
                      have b1598 := iv15_10 hS1585.1 ta0 c1597
                      obtain ⟨v1599, c1600⟩ : ∃ v, I1577 a0 11 = v := ⟨_, rfl⟩
                      obtain ⟨y1601, c1602⟩ : ∃ v, L1579 a0 15 = v := ⟨_, rfl⟩
                      obtain ⟨v1603, c1604⟩ : ∃ v, I1577 a0 12 = v := ⟨_, rfl⟩
                      obtain ⟨v1605, c1606⟩ : ∃ v, I1577 a0 8 = v := ⟨_, rfl⟩
                      have b1607 := iv15_8 hS1585.1 ta0 c1606
                      exact ⟨rfl, rfl, rfl, rfl, rfl, hS1585, (fun b hb => (Option.some.inj (d2.symm.trans hb)) ▸ (((((((((((FrM.rf (R := R0) (b := a1) (T := T)).st g74 (by decide +kernel)).st g126 (by decide +kernel)).st g196 (by decide +kernel)).st g262 (by decide +kernel)).st g318 (by decide +kernel)).pu f372 (by decide) (by decide) d67).st g395 (by decide +kernel)).st g1548 (by decide +kernel)).pu f1567 (by decide) (by decide) d67).tr (rp1584 _ d2))), (fun dr hd => (Option.some.inj (d2.symm.trans hd)) ▸ hO1588), (Or.inr (⟨(by first | done | with_reducible assumption | exact om_7fac24c5 eF), (by (try rw [c1590]); first | done | with_reducible assumption | omega), (by (try rw [c1593]); first | done | with_reducible assumption | exact om_93aef1c0 p416 ov1557.2.1 p1582 eF), (by (try rw [c1595]); first | done | with_reducible assumption | exact om_3efc13ef p417 ov1557.2.2 p1583 eP), trivial⟩)), trivial⟩
              · skip
                obtain ⟨v1608, c1609⟩ : ∃ v, I315 a0 9 = v := ⟨_, rfl⟩
                have b1610 := iv15_9 hS323.1 ta0 c1609
                rw [c1609] at p342
                obtain ⟨v1611, c1612⟩ : ∃ v, I315 a0 13 = v := ⟨_, rfl⟩
                rw [c1612] at p343
                obtain ⟨v1613, c1614⟩ : ∃ v, I315 a0 14 = v := ⟨_, rfl⟩
                rw [c1614] at p344
                replace hF := hF.pos (by exact om_73cc8e29 p341)
                replace hP := hP.pos (by exact om_73cc8e29 p341)
                refine q_iast dX12_readAlp_78 (kR53 hS323.1 ta66) (ti_in (nR53 hS323.1 ta66) (by exact om_d99fa9e4 h306) (by exact om_e7afc65a h306)) hS323 ta66 (iokF rfl) rfl (by rfl) ?_
                intro I1615 hS1616 e1618 f1617
                have c1619 : I1615 a1 0 = v29 := (f1617 _ _ (fun q => by have z := ta1; rw [q.1, ta66] at z; exact absurd z (by decide))).trans c324
                have c1620 : I1615 a1 1 = v33 := (f1617 _ _ (fun q => by have z := ta1; rw [q.1, ta66] at z; exact absurd z (by decide))).trans c325
                have c1621 : I1615 a0 9 = v1608 := (f1617 _ _ (fun q => by have z := ta0; rw [q.1, ta66] at z; exact absurd z (by decide))).trans c1609
                have c1622 : I1615 a0 13 = v1611 := (f1617 _ _ (fun q => by have z := ta0; rw [q.1, ta66] at z; exact absurd z (by decide))).trans c1612
                have c1623 : I1615 a0 14 = v1613 := (f1617 _ _ (fun q => by have z := ta0; rw [q.1, ta66] at z; exact absurd z (by decide))).trans c1614
                have hO1624 : FrO 14 a1 T I0 I1615 := hO326.put f1617 ta66 (Or.inl (by decide))
                refine q_iincE dX12_readAlp_79 rfl (by decide) (by decide) (by intro j1 j2; exact om_502d7b61 h306) ?_
                intro v1625 h1626
                refine tr_goto 48 dX12_readAlp_82 (by decide) ?_
                refine sf_oA48_1 hE hZ hS1616.1 (gB) ta0 (by exact om_597fa305 h306 h1626) (by (try rw [c1621]); first | done | with_reducible assumption | omega) ⟨_, d2⟩ rfl rfl rfl rfl ?_
                rintro I1627 R1628 L1629 ⟨g1630, p1631, p1632, p1633, rp1634, -⟩
                obtain rfl : R0 = R1628 := funext fun a => funext fun j => (g1630.2.2 a j (wm_no rfl)).symm
                have hS1635 := hS1616.tr g1630 (by decide +kernel) (by decide +kernel)
                have c1636 : I1627 a1 0 = v29 := (g1630.cell ta1 (by decide +kernel)).trans c1619
                have c1637 : I1627 a1 1 = v33 := (g1630.cell ta1 (by decide +kernel)).trans c1620
                have hO1638 : FrO 14 a1 T I0 I1627 := hO1624.st g1630 (by decide +kernel)
                obtain ⟨v1639, c1640⟩ : ∃ v, I1627 a0 9 = v := ⟨_, rfl⟩
                have b1641 := iv15_9 hS1635.1 ta0 c1640
                rw [c1640] at p1631
                obtain ⟨v1642, c1643⟩ : ∃ v, I1627 a0 13 = v := ⟨_, rfl⟩
                rw [c1643] at p1632
                rw [c1622] at p1632
                obtain ⟨v1644, c1645⟩ : ∃ v, I1627 a0 14 = v := ⟨_, rfl⟩
                rw [c1645] at p1633
                rw [c1623] at p1633
                have eF := hF.eq
                have eP := hP.eq
                obtain ⟨v1646, c1647⟩ : ∃ v, I1627 a0 10 = v := ⟨_, rfl⟩
                have b1648 := iv15_10 hS1635.1 ta0 c1647
                obtain ⟨v1649, c1650⟩ : ∃ v, I1627 a0 11 = v := ⟨_, rfl⟩
                obtain ⟨y1651, c1652⟩ : ∃ v, L1629 a0 15 = v := ⟨_, rfl⟩
                obtain ⟨v1653, c1654⟩ : ∃ v, I1627 a0 12 = v := ⟨_, rfl⟩
                obtain ⟨v1655, c1656⟩ : ∃ v, I1627 a0 8 = v := ⟨_, rfl⟩
                have b1657 := iv15_8 hS1635.1 ta0 c1656
                exact ⟨rfl, rfl, rfl, rfl, rfl, hS1635, (fun b hb => (Option.some.inj (d2.symm.trans hb)) ▸ ((((((((FrM.rf (R := R0) (b := a1) (T := T)).st g74 (by decide +kernel)).st g126 (by decide +kernel)).st g196 (by decide +kernel)).st g262 (by decide +kernel)).st g318 (by decide +kernel)).pu f1617 (by decide) (by decide) d67).tr (rp1634 _ d2))), (fun dr hd => (Option.some.inj (d2.symm.trans hd)) ▸ hO1638), (Or.inr (⟨(by first | done | with_reducible assumption | exact om_7fac24c5 eF), (by (try rw [c1640]); first | done | with_reducible assumption | omega), (by (try rw [c1643]); first | done | with_reducible assumption | exact om_9adad658 p343 p1632 eF), (by (try rw [c1645]); first | done | with_reducible assumption | exact om_3998a42e p344 p1633 eP), trivial⟩)), trivial⟩
              · skip
                obtain ⟨v1658, c1659⟩ : ∃ v, I315 a0 9 = v := ⟨_, rfl⟩
                have b1660 := iv15_9 hS323.1 ta0 c1659
                rw [c1659] at p348
                obtain ⟨v1661, c1662⟩ : ∃ v, I315 a0 13 = v := ⟨_, rfl⟩
                rw [c1662] at p349
                obtain ⟨v1663, c1664⟩ : ∃ v, I315 a0 14 = v := ⟨_, rfl⟩
                rw [c1664] at p350
                replace hF := hF.neg (by exact om_10ed11b5 p346)
                replace hP := hP.neg (by exact om_10ed11b5 p346)
                replace hF := hF.pos (by exact om_20030929 h312 h314 p347)
                replace hP := hP.pos (by exact om_20030929 h312 h314 p347)
                refine q_iast dX12_readAlp_78 (kR53 hS323.1 ta66) (ti_in (nR53 hS323.1 ta66) (by exact om_d99fa9e4 h306) (by exact om_e7afc65a h306)) hS323 ta66 (iokF rfl) rfl (by rfl) ?_
                intro I1665 hS1666 e1668 f1667
                have c1669 : I1665 a1 0 = v29 := (f1667 _ _ (fun q => by have z := ta1; rw [q.1, ta66] at z; exact absurd z (by decide))).trans c324
                have c1670 : I1665 a1 1 = v33 := (f1667 _ _ (fun q => by have z := ta1; rw [q.1, ta66] at z; exact absurd z (by decide))).trans c325
                have c1671 : I1665 a0 9 = v1658 := (f1667 _ _ (fun q => by have z := ta0; rw [q.1, ta66] at z; exact absurd z (by decide))).trans c1659
                have c1672 : I1665 a0 13 = v1661 := (f1667 _ _ (fun q => by have z := ta0; rw [q.1, ta66] at z; exact absurd z (by decide))).trans c1662
                have c1673 : I1665 a0 14 = v1663 := (f1667 _ _ (fun q => by have z := ta0; rw [q.1, ta66] at z; exact absurd z (by decide))).trans c1664
                have hO1674 : FrO 14 a1 T I0 I1665 := hO326.put f1667 ta66 (Or.inl (by decide))
                refine q_iincE dX12_readAlp_79 rfl (by decide) (by decide) (by intro j1 j2; exact om_502d7b61 h306) ?_
                intro v1675 h1676
                refine tr_goto 48 dX12_readAlp_82 (by decide) ?_
                refine sf_oA48_1 hE hZ hS1666.1 (gB) ta0 (by exact om_597fa305 h306 h1676) (by (try rw [c1671]); first | done | with_reducible assumption | omega) ⟨_, d2⟩ rfl rfl rfl rfl ?_
                rintro I1677 R1678 L1679 ⟨g1680, p1681, p1682, p1683, rp1684, -⟩
                obtain rfl : R0 = R1678 := funext fun a => funext fun j => (g1680.2.2 a j (wm_no rfl)).symm
                have hS1685 := hS1666.tr g1680 (by decide +kernel) (by decide +kernel)
                have c1686 : I1677 a1 0 = v29 := (g1680.cell ta1 (by decide +kernel)).trans c1669
                have c1687 : I1677 a1 1 = v33 := (g1680.cell ta1 (by decide +kernel)).trans c1670
                have hO1688 : FrO 14 a1 T I0 I1677 := hO1674.st g1680 (by decide +kernel)
                obtain ⟨v1689, c1690⟩ : ∃ v, I1677 a0 9 = v := ⟨_, rfl⟩
                have b1691 := iv15_9 hS1685.1 ta0 c1690
                rw [c1690] at p1681
                obtain ⟨v1692, c1693⟩ : ∃ v, I1677 a0 13 = v := ⟨_, rfl⟩
                rw [c1693] at p1682
                rw [c1672] at p1682
                obtain ⟨v1694, c1695⟩ : ∃ v, I1677 a0 14 = v := ⟨_, rfl⟩
                rw [c1695] at p1683
                rw [c1673] at p1683
                have eF := hF.eq
                have eP := hP.eq
                obtain ⟨v1696, c1697⟩ : ∃ v, I1677 a0 10 = v := ⟨_, rfl⟩
                have b1698 := iv15_10 hS1685.1 ta0 c1697
                obtain ⟨v1699, c1700⟩ : ∃ v, I1677 a0 11 = v := ⟨_, rfl⟩
                obtain ⟨y1701, c1702⟩ : ∃ v, L1679 a0 15 = v := ⟨_, rfl⟩
                obtain ⟨v1703, c1704⟩ : ∃ v, I1677 a0 12 = v := ⟨_, rfl⟩
                obtain ⟨v1705, c1706⟩ : ∃ v, I1677 a0 8 = v := ⟨_, rfl⟩
                have b1707 := iv15_8 hS1685.1 ta0 c1706
                exact ⟨rfl, rfl, rfl, rfl, rfl, hS1685, (fun b hb => (Option.some.inj (d2.symm.trans hb)) ▸ ((((((((FrM.rf (R := R0) (b := a1) (T := T)).st g74 (by decide +kernel)).st g126 (by decide +kernel)).st g196 (by decide +kernel)).st g262 (by decide +kernel)).st g318 (by decide +kernel)).pu f1667 (by decide) (by decide) d67).tr (rp1684 _ d2))), (fun dr hd => (Option.some.inj (d2.symm.trans hd)) ▸ hO1688), (Or.inr (⟨(by first | done | with_reducible assumption | exact om_7b84bd42 eF), (by (try rw [c1690]); first | done | with_reducible assumption | omega), (by (try rw [c1693]); first | done | with_reducible assumption | exact om_4510ffdb p349 p1682 eF), (by (try rw [c1695]); first | done | with_reducible assumption | exact om_3998a42e p350 p1683 eP), trivial⟩)), trivial⟩
            · skip
              exfalso; exact om_682e6e2d h306 h310
        · skip
          obtain ⟨v1708, c1709⟩ : ∃ v, I259 a0 9 = v := ⟨_, rfl⟩
          have b1710 := iv15_9 hS267.1 ta0 c1709
          rw [c1709] at p283
          obtain ⟨v1711, c1712⟩ : ∃ v, I259 a0 13 = v := ⟨_, rfl⟩
          rw [c1712] at p284
          obtain ⟨v1713, c1714⟩ : ∃ v, I259 a0 14 = v := ⟨_, rfl⟩
          rw [c1714] at p285
          replace hF := hF.pos (by exact om_9d03cfe3 p282)
          replace hP := hP.pos (by exact om_9d03cfe3 p282)
          refine q_iconst dX12_readAlp_46 (by decide) ?_
          intro v1715 h1716
          refine tr_istore_n dX12_readAlp_47 (by decide) (by decide) ?_
          refine sf_oA48_0 hE hZ hS267.1 (gB) ta0 (by exact om_615c7989 h1716) (by (try rw [c1709]); first | done | with_reducible assumption | omega) ⟨_, d2⟩ rfl rfl rfl rfl ?_
          rintro I1717 R1718 L1719 ⟨g1720, p1721, p1722, p1723, rp1724, -⟩
          obtain rfl : R0 = R1718 := funext fun a => funext fun j => (g1720.2.2 a j (wm_no rfl)).symm
          have hS1725 := hS267.tr g1720 (by decide +kernel) (by decide +kernel)
          have c1726 : I1717 a1 0 = v29 := (g1720.cell ta1 (by decide +kernel)).trans c268
          have c1727 : I1717 a1 1 = v33 := (g1720.cell ta1 (by decide +kernel)).trans c269
          have hO1728 : FrO 14 a1 T I0 I1717 := hO270.st g1720 (by decide +kernel)
          obtain ⟨v1729, c1730⟩ : ∃ v, I1717 a0 9 = v := ⟨_, rfl⟩
          have b1731 := iv15_9 hS1725.1 ta0 c1730
          rw [c1730] at p1721
          obtain ⟨v1732, c1733⟩ : ∃ v, I1717 a0 13 = v := ⟨_, rfl⟩
          rw [c1733] at p1722
          rw [c1712] at p1722
          obtain ⟨v1734, c1735⟩ : ∃ v, I1717 a0 14 = v := ⟨_, rfl⟩
          rw [c1735] at p1723
          rw [c1714] at p1723
          have eF := hF.eq
          have eP := hP.eq
          obtain ⟨v1736, c1737⟩ : ∃ v, I1717 a0 10 = v := ⟨_, rfl⟩
          have b1738 := iv15_10 hS1725.1 ta0 c1737
          obtain ⟨v1739, c1740⟩ : ∃ v, I1717 a0 11 = v := ⟨_, rfl⟩
          obtain ⟨y1741, c1742⟩ : ∃ v, L1719 a0 15 = v := ⟨_, rfl⟩
          obtain ⟨v1743, c1744⟩ : ∃ v, I1717 a0 12 = v := ⟨_, rfl⟩
          obtain ⟨v1745, c1746⟩ : ∃ v, I1717 a0 8 = v := ⟨_, rfl⟩
          have b1747 := iv15_8 hS1725.1 ta0 c1746
          exact ⟨rfl, rfl, rfl, rfl, rfl, hS1725, (fun b hb => (Option.some.inj (d2.symm.trans hb)) ▸ ((((((FrM.rf (R := R0) (b := a1) (T := T)).st g74 (by decide +kernel)).st g126 (by decide +kernel)).st g196 (by decide +kernel)).st g262 (by decide +kernel)).tr (rp1724 _ d2))), (fun dr hd => (Option.some.inj (d2.symm.trans hd)) ▸ hO1728), (Or.inr (⟨(by first | done | with_reducible assumption | exact om_7fac24c5 eF), (by (try rw [c1730]); first | done | with_reducible assumption | omega), (by (try rw [c1733]); first | done | with_reducible assumption | exact om_9adad658 p284 p1722 eF), (by (try rw [c1735]); first | done | with_reducible assumption | exact om_3998a42e p285 p1723 eP), trivial⟩)), trivial⟩
      · skip
        obtain ⟨v1748, c1749⟩ : ∃ v, I193 a0 9 = v := ⟨_, rfl⟩
        have b1750 := iv15_9 hS201.1 ta0 c1749
        rw [c1749] at p222
        obtain ⟨v1751, c1752⟩ : ∃ v, I193 a0 13 = v := ⟨_, rfl⟩
        rw [c1752] at p223
        obtain ⟨v1753, c1754⟩ : ∃ v, I193 a0 14 = v := ⟨_, rfl⟩
        rw [c1754] at p224
        replace hF := hF.pos (by exact om_d9bcc258 p221)
        replace hP := hP.pos (by exact om_d9bcc258 p221)
        refine tr_istore_n dX12_readAlp_39 (by decide) (by decide) ?_
        refine sf_oA40 hE hZ hS201.1 (gB) ta0 (by (try rw [c1749]); first | done | with_reducible assumption | omega) ⟨_, d2⟩ rfl rfl rfl ?_
        rintro I1755 R1756 L1757 ⟨g1758, p1759, p1760, p1761, rp1762, -⟩
        obtain rfl : R0 = R1756 := funext fun a => funext fun j => (g1758.2.2 a j (wm_no rfl)).symm
        have hS1763 := hS201.tr g1758 (by decide +kernel) (by decide +kernel)
        have c1764 : I1755 a1 0 = v29 := (g1758.cell ta1 (by decide +kernel)).trans c202
        have c1765 : I1755 a1 1 = v33 := (g1758.cell ta1 (by decide +kernel)).trans c203
        have hO1766 : FrO 14 a1 T I0 I1755 := hO204.st g1758 (by decide +kernel)
        obtain ⟨v1767, c1768⟩ : ∃ v, I1755 a0 9 = v := ⟨_, rfl⟩
        have b1769 := iv15_9 hS1763.1 ta0 c1768
        rw [c1768] at p1759
        obtain ⟨v1770, c1771⟩ : ∃ v, I1755 a0 13 = v := ⟨_, rfl⟩
        rw [c1771] at p1760
        rw [c1752] at p1760
        obtain ⟨v1772, c1773⟩ : ∃ v, I1755 a0 14 = v := ⟨_, rfl⟩
        rw [c1773] at p1761
        rw [c1754] at p1761
        have eF := hF.eq
        have eP := hP.eq
        obtain ⟨v1774, c1775⟩ : ∃ v, I1755 a0 10 = v := ⟨_, rfl⟩
        have b1776 := iv15_10 hS1763.1 ta0 c1775
        obtain ⟨v1777, c1778⟩ : ∃ v, I1755 a0 11 = v := ⟨_, rfl⟩
        obtain ⟨y1779, c1780⟩ : ∃ v, L1757 a0 15 = v := ⟨_, rfl⟩
        obtain ⟨v1781, c1782⟩ : ∃ v, I1755 a0 12 = v := ⟨_, rfl⟩
        obtain ⟨v1783, c1784⟩ : ∃ v, I1755 a0 8 = v := ⟨_, rfl⟩
        have b1785 := iv15_8 hS1763.1 ta0 c1784
        exact ⟨rfl, rfl, rfl, rfl, rfl, hS1763, (fun b hb => (Option.some.inj (d2.symm.trans hb)) ▸ (((((FrM.rf (R := R0) (b := a1) (T := T)).st g74 (by decide +kernel)).st g126 (by decide +kernel)).st g196 (by decide +kernel)).tr (rp1762 _ d2))), (fun dr hd => (Option.some.inj (d2.symm.trans hd)) ▸ hO1766), (Or.inr (⟨(by first | done | with_reducible assumption | exact om_7fac24c5 eF), (by (try rw [c1768]); first | done | with_reducible assumption | omega), (by (try rw [c1771]); first | done | with_reducible assumption | exact om_9adad658 p223 p1760 eF), (by (try rw [c1773]); first | done | with_reducible assumption | exact om_3998a42e p224 p1761 eP), trivial⟩)), trivial⟩
      · skip
        obtain ⟨v1786, c1787⟩ : ∃ v, I193 a0 9 = v := ⟨_, rfl⟩
        have b1788 := iv15_9 hS201.1 ta0 c1787
        rw [c1787] at p229
        obtain ⟨v1789, c1790⟩ : ∃ v, I193 a0 13 = v := ⟨_, rfl⟩
        rw [c1790] at p230
        obtain ⟨v1791, c1792⟩ : ∃ v, I193 a0 14 = v := ⟨_, rfl⟩
        rw [c1792] at p231
        replace hF := hF.neg (by exact om_775460f3 p226 p227)
        replace hP := hP.neg (by exact om_775460f3 p226 p227)
        replace hF := hF.pos (by exact om_73cc8e29 p228)
        replace hP := hP.pos (by exact om_73cc8e29 p228)
        refine tr_istore_n dX12_readAlp_39 (by decide) (by decide) ?_
        refine sf_oA40 hE hZ hS201.1 (gB) ta0 (by (try rw [c1787]); first | done | with_reducible assumption | omega) ⟨_, d2⟩ rfl rfl rfl ?_
        rintro I1793 R1794 L1795 ⟨g1796, p1797, p1798, p1799, rp1800, -⟩
        obtain rfl : R0 = R1794 := funext fun a => funext fun j => (g1796.2.2 a j (wm_no rfl)).symm
        have hS1801 := hS201.tr g1796 (by decide +kernel) (by decide +kernel)
        have c1802 : I1793 a1 0 = v29 := (g1796.cell ta1 (by decide +kernel)).trans c202
        have c1803 : I1793 a1 1 = v33 := (g1796.cell ta1 (by decide +kernel)).trans c203
        have hO1804 : FrO 14 a1 T I0 I1793 := hO204.st g1796 (by decide +kernel)
        obtain ⟨v1805, c1806⟩ : ∃ v, I1793 a0 9 = v := ⟨_, rfl⟩
        have b1807 := iv15_9 hS1801.1 ta0 c1806
        rw [c1806] at p1797
        obtain ⟨v1808, c1809⟩ : ∃ v, I1793 a0 13 = v := ⟨_, rfl⟩
        rw [c1809] at p1798
        rw [c1790] at p1798
        obtain ⟨v1810, c1811⟩ : ∃ v, I1793 a0 14 = v := ⟨_, rfl⟩
        rw [c1811] at p1799
        rw [c1792] at p1799
        have eF := hF.eq
        have eP := hP.eq
        obtain ⟨v1812, c1813⟩ : ∃ v, I1793 a0 10 = v := ⟨_, rfl⟩
        have b1814 := iv15_10 hS1801.1 ta0 c1813
        obtain ⟨v1815, c1816⟩ : ∃ v, I1793 a0 11 = v := ⟨_, rfl⟩
        obtain ⟨y1817, c1818⟩ : ∃ v, L1795 a0 15 = v := ⟨_, rfl⟩
        obtain ⟨v1819, c1820⟩ : ∃ v, I1793 a0 12 = v := ⟨_, rfl⟩
        obtain ⟨v1821, c1822⟩ : ∃ v, I1793 a0 8 = v := ⟨_, rfl⟩
        have b1823 := iv15_8 hS1801.1 ta0 c1822
        exact ⟨rfl, rfl, rfl, rfl, rfl, hS1801, (fun b hb => (Option.some.inj (d2.symm.trans hb)) ▸ (((((FrM.rf (R := R0) (b := a1) (T := T)).st g74 (by decide +kernel)).st g126 (by decide +kernel)).st g196 (by decide +kernel)).tr (rp1800 _ d2))), (fun dr hd => (Option.some.inj (d2.symm.trans hd)) ▸ hO1804), (Or.inr (⟨(by first | done | with_reducible assumption | exact om_7fac24c5 eF), (by (try rw [c1806]); first | done | with_reducible assumption | omega), (by (try rw [c1809]); first | done | with_reducible assumption | exact om_9adad658 p230 p1798 eF), (by (try rw [c1811]); first | done | with_reducible assumption | exact om_3998a42e p231 p1799 eP), trivial⟩)), trivial⟩
      · skip
        obtain ⟨v1824, c1825⟩ : ∃ v, I193 a0 9 = v := ⟨_, rfl⟩
        have b1826 := iv15_9 hS201.1 ta0 c1825
        rw [c1825] at p237
        obtain ⟨v1827, c1828⟩ : ∃ v, I193 a0 13 = v := ⟨_, rfl⟩
        rw [c1828] at p238
        obtain ⟨v1829, c1830⟩ : ∃ v, I193 a0 14 = v := ⟨_, rfl⟩
        rw [c1830] at p239
        replace hF := hF.neg (by exact om_775460f3 p233 p234)
        replace hP := hP.neg (by exact om_775460f3 p233 p234)
        replace hF := hF.neg (by exact om_10ed11b5 p235)
        replace hP := hP.neg (by exact om_10ed11b5 p235)
        replace hF := hF.pos (by exact om_f9d1e603 h190 h192 p236)
        replace hP := hP.pos (by exact om_f9d1e603 h190 h192 p236)
        refine tr_istore_n dX12_readAlp_39 (by decide) (by decide) ?_
        refine sf_oA40 hE hZ hS201.1 (gB) ta0 (by (try rw [c1825]); first | done | with_reducible assumption | omega) ⟨_, d2⟩ rfl rfl rfl ?_
        rintro I1831 R1832 L1833 ⟨g1834, p1835, p1836, p1837, rp1838, -⟩
        obtain rfl : R0 = R1832 := funext fun a => funext fun j => (g1834.2.2 a j (wm_no rfl)).symm
        have hS1839 := hS201.tr g1834 (by decide +kernel) (by decide +kernel)
        have c1840 : I1831 a1 0 = v29 := (g1834.cell ta1 (by decide +kernel)).trans c202
        have c1841 : I1831 a1 1 = v33 := (g1834.cell ta1 (by decide +kernel)).trans c203
        have hO1842 : FrO 14 a1 T I0 I1831 := hO204.st g1834 (by decide +kernel)
        obtain ⟨v1843, c1844⟩ : ∃ v, I1831 a0 9 = v := ⟨_, rfl⟩
        have b1845 := iv15_9 hS1839.1 ta0 c1844
        rw [c1844] at p1835
        obtain ⟨v1846, c1847⟩ : ∃ v, I1831 a0 13 = v := ⟨_, rfl⟩
        rw [c1847] at p1836
        rw [c1828] at p1836
        obtain ⟨v1848, c1849⟩ : ∃ v, I1831 a0 14 = v := ⟨_, rfl⟩
        rw [c1849] at p1837
        rw [c1830] at p1837
        have eF := hF.eq
        have eP := hP.eq
        obtain ⟨v1850, c1851⟩ : ∃ v, I1831 a0 10 = v := ⟨_, rfl⟩
        have b1852 := iv15_10 hS1839.1 ta0 c1851
        obtain ⟨v1853, c1854⟩ : ∃ v, I1831 a0 11 = v := ⟨_, rfl⟩
        obtain ⟨y1855, c1856⟩ : ∃ v, L1833 a0 15 = v := ⟨_, rfl⟩
        obtain ⟨v1857, c1858⟩ : ∃ v, I1831 a0 12 = v := ⟨_, rfl⟩
        obtain ⟨v1859, c1860⟩ : ∃ v, I1831 a0 8 = v := ⟨_, rfl⟩
        have b1861 := iv15_8 hS1839.1 ta0 c1860
        exact ⟨rfl, rfl, rfl, rfl, rfl, hS1839, (fun b hb => (Option.some.inj (d2.symm.trans hb)) ▸ (((((FrM.rf (R := R0) (b := a1) (T := T)).st g74 (by decide +kernel)).st g126 (by decide +kernel)).st g196 (by decide +kernel)).tr (rp1838 _ d2))), (fun dr hd => (Option.some.inj (d2.symm.trans hd)) ▸ hO1842), (Or.inr (⟨(by first | done | with_reducible assumption | exact om_7b84bd42 eF), (by (try rw [c1844]); first | done | with_reducible assumption | omega), (by (try rw [c1847]); first | done | with_reducible assumption | exact om_4510ffdb p238 p1836 eF), (by (try rw [c1849]); first | done | with_reducible assumption | exact om_3998a42e p239 p1837 eP), trivial⟩)), trivial⟩
    · skip
      obtain ⟨v1862, c1863⟩ : ∃ v, I123 a0 9 = v := ⟨_, rfl⟩
      have b1864 := iv15_9 hS131.1 ta0 c1863
      rw [c1863] at p152
      obtain ⟨v1865, c1866⟩ : ∃ v, I123 a0 13 = v := ⟨_, rfl⟩
      rw [c1866] at p153
      obtain ⟨v1867, c1868⟩ : ∃ v, I123 a0 14 = v := ⟨_, rfl⟩
      rw [c1868] at p154
      replace hF := hF.pos (by exact om_94b4840e p151)
      replace hP := hP.pos (by exact om_94b4840e p151)
      refine tr_istore_n dX12_readAlp_30 (by decide) (by decide) ?_
      refine sf_oA31 hE hZ hS131.1 (gB) ta0 (by (try rw [c1863]); first | done | with_reducible assumption | omega) ⟨_, d2⟩ rfl rfl ?_
      rintro I1869 R1870 L1871 ⟨g1872, p1873, p1874, p1875, rp1876, -⟩
      obtain rfl : R0 = R1870 := funext fun a => funext fun j => (g1872.2.2 a j (wm_no rfl)).symm
      have hS1877 := hS131.tr g1872 (by decide +kernel) (by decide +kernel)
      have c1878 : I1869 a1 0 = v29 := (g1872.cell ta1 (by decide +kernel)).trans c132
      have c1879 : I1869 a1 1 = v33 := (g1872.cell ta1 (by decide +kernel)).trans c133
      have hO1880 : FrO 14 a1 T I0 I1869 := hO134.st g1872 (by decide +kernel)
      obtain ⟨v1881, c1882⟩ : ∃ v, I1869 a0 9 = v := ⟨_, rfl⟩
      have b1883 := iv15_9 hS1877.1 ta0 c1882
      rw [c1882] at p1873
      obtain ⟨v1884, c1885⟩ : ∃ v, I1869 a0 13 = v := ⟨_, rfl⟩
      rw [c1885] at p1874
      rw [c1866] at p1874
      obtain ⟨v1886, c1887⟩ : ∃ v, I1869 a0 14 = v := ⟨_, rfl⟩
      rw [c1887] at p1875
      rw [c1868] at p1875
      have eF := hF.eq
      have eP := hP.eq
      obtain ⟨v1888, c1889⟩ : ∃ v, I1869 a0 10 = v := ⟨_, rfl⟩
      have b1890 := iv15_10 hS1877.1 ta0 c1889
      obtain ⟨v1891, c1892⟩ : ∃ v, I1869 a0 11 = v := ⟨_, rfl⟩
      obtain ⟨y1893, c1894⟩ : ∃ v, L1871 a0 15 = v := ⟨_, rfl⟩
      obtain ⟨v1895, c1896⟩ : ∃ v, I1869 a0 12 = v := ⟨_, rfl⟩
      obtain ⟨v1897, c1898⟩ : ∃ v, I1869 a0 8 = v := ⟨_, rfl⟩
      have b1899 := iv15_8 hS1877.1 ta0 c1898
      exact ⟨rfl, rfl, rfl, rfl, rfl, hS1877, (fun b hb => (Option.some.inj (d2.symm.trans hb)) ▸ ((((FrM.rf (R := R0) (b := a1) (T := T)).st g74 (by decide +kernel)).st g126 (by decide +kernel)).tr (rp1876 _ d2))), (fun dr hd => (Option.some.inj (d2.symm.trans hd)) ▸ hO1880), (Or.inr (⟨(by first | done | with_reducible assumption | exact om_7fac24c5 eF), (by (try rw [c1882]); first | done | with_reducible assumption | omega), (by (try rw [c1885]); first | done | with_reducible assumption | exact om_9adad658 p153 p1874 eF), (by (try rw [c1887]); first | done | with_reducible assumption | exact om_3998a42e p154 p1875 eP), trivial⟩)), trivial⟩
    · skip
      obtain ⟨v1900, c1901⟩ : ∃ v, I123 a0 9 = v := ⟨_, rfl⟩
      have b1902 := iv15_9 hS131.1 ta0 c1901
      rw [c1901] at p159
      obtain ⟨v1903, c1904⟩ : ∃ v, I123 a0 13 = v := ⟨_, rfl⟩
      rw [c1904] at p160
      obtain ⟨v1905, c1906⟩ : ∃ v, I123 a0 14 = v := ⟨_, rfl⟩
      rw [c1906] at p161
      replace hF := hF.neg (by exact om_3aac0632 p156 p157)
      replace hP := hP.neg (by exact om_3aac0632 p156 p157)
      replace hF := hF.pos (by exact om_73cc8e29 p158)
      replace hP := hP.pos (by exact om_73cc8e29 p158)
      refine tr_istore_n dX12_readAlp_30 (by decide) (by decide) ?_
      refine sf_oA31 hE hZ hS131.1 (gB) ta0 (by (try rw [c1901]); first | done | with_reducible assumption | omega) ⟨_, d2⟩ rfl rfl ?_
      rintro I1907 R1908 L1909 ⟨g1910, p1911, p1912, p1913, rp1914, -⟩
      obtain rfl : R0 = R1908 := funext fun a => funext fun j => (g1910.2.2 a j (wm_no rfl)).symm
      have hS1915 := hS131.tr g1910 (by decide +kernel) (by decide +kernel)
      have c1916 : I1907 a1 0 = v29 := (g1910.cell ta1 (by decide +kernel)).trans c132
      have c1917 : I1907 a1 1 = v33 := (g1910.cell ta1 (by decide +kernel)).trans c133
      have hO1918 : FrO 14 a1 T I0 I1907 := hO134.st g1910 (by decide +kernel)
      obtain ⟨v1919, c1920⟩ : ∃ v, I1907 a0 9 = v := ⟨_, rfl⟩
      have b1921 := iv15_9 hS1915.1 ta0 c1920
      rw [c1920] at p1911
      obtain ⟨v1922, c1923⟩ : ∃ v, I1907 a0 13 = v := ⟨_, rfl⟩
      rw [c1923] at p1912
      rw [c1904] at p1912
      obtain ⟨v1924, c1925⟩ : ∃ v, I1907 a0 14 = v := ⟨_, rfl⟩
      rw [c1925] at p1913
      rw [c1906] at p1913
      have eF := hF.eq
      have eP := hP.eq
      obtain ⟨v1926, c1927⟩ : ∃ v, I1907 a0 10 = v := ⟨_, rfl⟩
      have b1928 := iv15_10 hS1915.1 ta0 c1927
      obtain ⟨v1929, c1930⟩ : ∃ v, I1907 a0 11 = v := ⟨_, rfl⟩
      obtain ⟨y1931, c1932⟩ : ∃ v, L1909 a0 15 = v := ⟨_, rfl⟩
      obtain ⟨v1933, c1934⟩ : ∃ v, I1907 a0 12 = v := ⟨_, rfl⟩
      obtain ⟨v1935, c1936⟩ : ∃ v, I1907 a0 8 = v := ⟨_, rfl⟩
      have b1937 := iv15_8 hS1915.1 ta0 c1936
      exact ⟨rfl, rfl, rfl, rfl, rfl, hS1915, (fun b hb => (Option.some.inj (d2.symm.trans hb)) ▸ ((((FrM.rf (R := R0) (b := a1) (T := T)).st g74 (by decide +kernel)).st g126 (by decide +kernel)).tr (rp1914 _ d2))), (fun dr hd => (Option.some.inj (d2.symm.trans hd)) ▸ hO1918), (Or.inr (⟨(by first | done | with_reducible assumption | exact om_7fac24c5 eF), (by (try rw [c1920]); first | done | with_reducible assumption | omega), (by (try rw [c1923]); first | done | with_reducible assumption | exact om_9adad658 p160 p1912 eF), (by (try rw [c1925]); first | done | with_reducible assumption | exact om_3998a42e p161 p1913 eP), trivial⟩)), trivial⟩
    · skip
      obtain ⟨v1938, c1939⟩ : ∃ v, I123 a0 9 = v := ⟨_, rfl⟩
      have b1940 := iv15_9 hS131.1 ta0 c1939
      rw [c1939] at p167
      obtain ⟨v1941, c1942⟩ : ∃ v, I123 a0 13 = v := ⟨_, rfl⟩
      rw [c1942] at p168
      obtain ⟨v1943, c1944⟩ : ∃ v, I123 a0 14 = v := ⟨_, rfl⟩
      rw [c1944] at p169
      replace hF := hF.neg (by exact om_3aac0632 p163 p164)
      replace hP := hP.neg (by exact om_3aac0632 p163 p164)
      replace hF := hF.neg (by exact om_10ed11b5 p165)
      replace hP := hP.neg (by exact om_10ed11b5 p165)
      replace hF := hF.pos (by exact om_826589b0 h120 h122 p166)
      replace hP := hP.pos (by exact om_826589b0 h120 h122 p166)
      refine tr_istore_n dX12_readAlp_30 (by decide) (by decide) ?_
      refine sf_oA31 hE hZ hS131.1 (gB) ta0 (by (try rw [c1939]); first | done | with_reducible assumption | omega) ⟨_, d2⟩ rfl rfl ?_
      rintro I1945 R1946 L1947 ⟨g1948, p1949, p1950, p1951, rp1952, -⟩
      obtain rfl : R0 = R1946 := funext fun a => funext fun j => (g1948.2.2 a j (wm_no rfl)).symm
      have hS1953 := hS131.tr g1948 (by decide +kernel) (by decide +kernel)
      have c1954 : I1945 a1 0 = v29 := (g1948.cell ta1 (by decide +kernel)).trans c132
      have c1955 : I1945 a1 1 = v33 := (g1948.cell ta1 (by decide +kernel)).trans c133
      have hO1956 : FrO 14 a1 T I0 I1945 := hO134.st g1948 (by decide +kernel)
      obtain ⟨v1957, c1958⟩ : ∃ v, I1945 a0 9 = v := ⟨_, rfl⟩
      have b1959 := iv15_9 hS1953.1 ta0 c1958
      rw [c1958] at p1949
      obtain ⟨v1960, c1961⟩ : ∃ v, I1945 a0 13 = v := ⟨_, rfl⟩
      rw [c1961] at p1950
      rw [c1942] at p1950
      obtain ⟨v1962, c1963⟩ : ∃ v, I1945 a0 14 = v := ⟨_, rfl⟩
      rw [c1963] at p1951
      rw [c1944] at p1951
      have eF := hF.eq
      have eP := hP.eq
      obtain ⟨v1964, c1965⟩ : ∃ v, I1945 a0 10 = v := ⟨_, rfl⟩
      have b1966 := iv15_10 hS1953.1 ta0 c1965
      obtain ⟨v1967, c1968⟩ : ∃ v, I1945 a0 11 = v := ⟨_, rfl⟩
      obtain ⟨y1969, c1970⟩ : ∃ v, L1947 a0 15 = v := ⟨_, rfl⟩
      obtain ⟨v1971, c1972⟩ : ∃ v, I1945 a0 12 = v := ⟨_, rfl⟩
      obtain ⟨v1973, c1974⟩ : ∃ v, I1945 a0 8 = v := ⟨_, rfl⟩
      have b1975 := iv15_8 hS1953.1 ta0 c1974
      exact ⟨rfl, rfl, rfl, rfl, rfl, hS1953, (fun b hb => (Option.some.inj (d2.symm.trans hb)) ▸ ((((FrM.rf (R := R0) (b := a1) (T := T)).st g74 (by decide +kernel)).st g126 (by decide +kernel)).tr (rp1952 _ d2))), (fun dr hd => (Option.some.inj (d2.symm.trans hd)) ▸ hO1956), (Or.inr (⟨(by first | done | with_reducible assumption | exact om_7b84bd42 eF), (by (try rw [c1958]); first | done | with_reducible assumption | omega), (by (try rw [c1961]); first | done | with_reducible assumption | exact om_4510ffdb p168 p1950 eF), (by (try rw [c1963]); first | done | with_reducible assumption | exact om_3998a42e p169 p1951 eP), trivial⟩)), trivial⟩
  · skip
    have p1976 := p61
    unfold Q7M at p1976
    replace hF := hF.pos (by exact om_1d15bf7d pre18 b31.2 b31.1 p32 b59.2 b59.1 p60 h68 p1976)
    replace hP := hP.pos (by exact om_1d15bf7d pre18 b31.2 b31.1 p32 b59.2 b59.1 p60 h68 p1976)
    refine tr_aload_n dX12_readAlp_10 rfl ?_
    refine q_iconst dX12_readAlp_11 (by decide) ?_
    intro v1977 h1978
    refine q_callVv hE (M' := mX12_flaw) (as := [_]) dX12_readAlp_12 lk12_145 inX12_flaw seX12_flaw myX12_flaw (by decide) ⟨by decide, by decide⟩ rfl (kR15 hS0.1 ta0) (Nat.le_of_ble_eq_true rfl) rfl rfl (by decide) (by decide) (fk_X12_flaw hS0.1  ta0 (by exact om_7e011daf h1978) (by (try rw [c4]); first | done | with_reducible assumption | exact om_df98ac7c pre0 pre1 b5.2 b5.1 p6)) ?_
    rintro cn' K' N' I1979 R1980 L1981 ⟨rfl, rfl, rfl, rfl, rfl, g1982, p1985, p1986, p1987, -⟩
    have hM1988 : NmM I1979 R0 L0 a1 gQ := NmM.kpS hM0 g1982 hS0.1 ta1 (by decide +kernel) (by decide +kernel)
    have hS1989 := hS0.tr g1982 (by decide +kernel) (by decide +kernel)
    have c1990 : I1979 a0 10 = v8 := (g1982.cell ta0 (by decide +kernel)).trans c9
    have c1991 : I1979 a0 11 = v12 := (g1982.cell ta0 (by decide +kernel)).trans c13
    have c1992 : I1979 a0 12 = v18 := (g1982.cell ta0 (by decide +kernel)).trans c19
    have c1993 : I1979 a0 8 = v21 := (g1982.cell ta0 (by decide +kernel)).trans c22
    have c1994 : I1979 a1 0 = v29 := (g1982.cell ta1 (by decide +kernel)).trans c30
    have c1995 : I1979 a1 1 = v33 := (g1982.cell ta1 (by decide +kernel)).trans c34
    have hO1996 : FrO 14 a1 T I0 I1979 := hO0.st g1982 (by decide +kernel)
    obtain ⟨v1997, c1998⟩ : ∃ v, I1979 a0 9 = v := ⟨_, rfl⟩
    have b1999 := iv15_9 hS1989.1 ta0 c1998
    rw [c1998] at p1985
    obtain ⟨v2000, c2001⟩ : ∃ v, I1979 a0 13 = v := ⟨_, rfl⟩
    rw [c2001] at p1986
    obtain ⟨v2002, c2003⟩ : ∃ v, I1979 a0 14 = v := ⟨_, rfl⟩
    rw [c2003] at p1987
    rw [c9] at p1987
    refine sf_oA15 hE hZ hS1989.1 (gB) ta0 (by (try rw [c1998]); first | done | with_reducible assumption | omega) ⟨_, d2⟩ rfl ?_
    rintro I2004 R2005 L2006 ⟨g2007, p2008, p2009, p2010, rp2011, -⟩
    obtain rfl : R0 = R2005 := funext fun a => funext fun j => (g2007.2.2 a j (wm_no rfl)).symm
    have hS2012 := hS1989.tr g2007 (by decide +kernel) (by decide +kernel)
    have c2013 : I2004 a1 0 = v29 := (g2007.cell ta1 (by decide +kernel)).trans c1994
    have c2014 : I2004 a1 1 = v33 := (g2007.cell ta1 (by decide +kernel)).trans c1995
    have hO2015 : FrO 14 a1 T I0 I2004 := hO1996.st g2007 (by decide +kernel)
    obtain ⟨v2016, c2017⟩ : ∃ v, I2004 a0 9 = v := ⟨_, rfl⟩
    have b2018 := iv15_9 hS2012.1 ta0 c2017
    rw [c2017] at p2008
    obtain ⟨v2019, c2020⟩ : ∃ v, I2004 a0 13 = v := ⟨_, rfl⟩
    rw [c2020] at p2009
    rw [c2001] at p2009
    obtain ⟨v2021, c2022⟩ : ∃ v, I2004 a0 14 = v := ⟨_, rfl⟩
    rw [c2022] at p2010
    rw [c2003] at p2010
    have eF := hF.eq
    have eP := hP.eq
    obtain ⟨v2023, c2024⟩ : ∃ v, I2004 a0 10 = v := ⟨_, rfl⟩
    have b2025 := iv15_10 hS2012.1 ta0 c2024
    obtain ⟨v2026, c2027⟩ : ∃ v, I2004 a0 11 = v := ⟨_, rfl⟩
    obtain ⟨y2028, c2029⟩ : ∃ v, L2006 a0 15 = v := ⟨_, rfl⟩
    obtain ⟨v2030, c2031⟩ : ∃ v, I2004 a0 12 = v := ⟨_, rfl⟩
    obtain ⟨v2032, c2033⟩ : ∃ v, I2004 a0 8 = v := ⟨_, rfl⟩
    have b2034 := iv15_8 hS2012.1 ta0 c2033
    exact ⟨rfl, rfl, rfl, rfl, rfl, hS2012, (fun b hb => (Option.some.inj (d2.symm.trans hb)) ▸ (((FrM.rf (R := R0) (b := a1) (T := T)).st g1982 (by decide +kernel)).tr (rp2011 _ d2))), (fun dr hd => (Option.some.inj (d2.symm.trans hd)) ▸ hO2015), (Or.inr (⟨(by first | done | with_reducible assumption | exact om_c731b21c eF), (by (try rw [c2017]); first | done | with_reducible assumption | omega), (by (try rw [c2020]); first | done | with_reducible assumption | exact om_7262b70c h1978 p1986 p2009 eF), (by (try rw [c2022]); first | done | with_reducible assumption | exact om_3efc13ef p11 p1987 p2010 eP), trivial⟩)), trivial⟩
