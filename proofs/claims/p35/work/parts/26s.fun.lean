set_option maxHeartbeats 4000000 in
theorem fk_X11_find {l : Launch} {T : Nat → Nat} {cn : Nat} {K N : Nat → Nat} {I0 : cz_I} {R0 : cz_R} {L0 : cz_L} {d : Int} (hW0 : Wf T cn K N I0 R0 d) (gw : Int) {a0 : Nat} (ta0 : T a0 = 14) {y1 : Int64} (pre0 : y1.toInt = (gw)) : ConE l mX11_find [.ref a0, .long y1] cn K N I0 R0 L0 (ca_i (fun v cn' K' N' I' R' L' => cn = cn' ∧ K = K' ∧ N = N' ∧ I0 = I' ∧ R0 = R' ∧ L0 = L' ∧ ((-1) ≤ v.toInt ∧ v.toInt ≤ 12) ∧ (FdM L0 R0 a0 (I0 a0 7).toInt gw v) ∧ True)) := by
  refine ConE.of (by decide +kernel) rfl (Nat.le_of_ble_eq_true rfl) rfl (fun X hX hZ hE => ?_)
  subst hX
  have p1 := pre0
  obtain ⟨a2, d3, ta2⟩ := rf14_30 hW0 ta0
  refine q_iconst dX11_find_0 (by decide) ?_
  intro v4 h5
  refine tr_istore_n dX11_find_1 (by decide) (by decide) ?_
  have lp13 : ∀ (fu : Nat) (ls : Nat → Option Value) (v6 : Int32), ls 0 = some (.ref a0) → ls 1 = some (.long y1) → ls 3 = some (.int v6) → 0 ≤ v6.toInt → v6.toInt ≤ 13 → (∀ k : Nat, (k : Int) < v6.toInt → (L0 a2 k).toInt ≠ gw) → (-v6.toInt + 2147483647).toNat < fu → Tr X mX11_find 2 ls [] cn K N I0 R0 L0 0 0 := by
    intro fu
    induction fu with
    | zero => intros; rename_i hz; exact absurd hz (Nat.not_lt_zero _)
    | succ fu ih13 =>
      intro ls v6 hl7 hl8 hl9 g10 g11 rw12 hm13
      refine tr_iload_n dX11_find_2 hl9 ?_
      refine tr_aload_n dX11_find_3 hl7 ?_
      obtain ⟨v15, c16⟩ : ∃ v, I0 a0 7 = v := ⟨_, rfl⟩
      have b17 := iv14_7 hW0 ta0 c16
      refine q_getI dX11_find_4 fl11_83 (kR14 hW0 ta0) c16 ?_
      refine q_icmp_ge 29 dX11_find_7 (by decide) (fun h18 => ?_) (fun h18 => ?_)
      · skip
        refine q_iconst dX11_find_29 (by decide) ?_
        intro v19 h20
        exact tr_iret hZ dX11_find_30 rfl (by decide) (by decide) ⟨v19, rfl, rfl, rfl, rfl, rfl, rfl, rfl, (by exact om_7de6d412 h20), (fun t ht => by obtain rfl := Option.some.inj (d3.symm.trans ht); exact Or.inl ⟨by exact om_dd98535d h20, fun k hk => rw12 k (by rw [c16] at hk; exact om_a60464d4 h18 hk)⟩), trivial⟩
      · skip
        refine tr_aload_n dX11_find_10 hl7 ?_
        refine tr_getR dX11_find_11 fl11_73 (kR14 hW0 ta0) d3 ?_
        refine tr_iload_n dX11_find_14 hl9 ?_
        refine q_laldE dX11_find_15 (kR73 hW0 ta2) (ti_in (nR73 hW0 ta2) (by exact om_2cfcd5a5 g10) (by exact om_5c31c1a3 g10 g11 b17.2 b17.1 h18)) ?_
        intro y21 c22
        refine tr_lload_n dX11_find_16 hl8 ?_
        refine q_lcmpNe 23 dX11_find_17 dX11_find_18 (by decide) (fun h23 => ?_) (fun h23 => ?_)
        · skip
          refine q_iincE dX11_find_23 hl9 (by decide) (by decide) (by intro j1 j2; exact om_49d8d6f2 g10 g11) ?_
          intro v24 h25
          refine tr_goto 2 dX11_find_26 (by decide) ?_
          exact ih13 _ v24 hl7 hl8 rfl (by exact om_3947a534 g10 g11 h25) (by exact om_0cff1aff g10 g11 b17.2 b17.1 h18 h25) (fun k hk => by by_cases q : (k : Int) < v6.toInt; exact rw12 k q; rw [show k = v6.toNatClampNeg by have q := ti_nat (i := v6) (by exact om_2cfcd5a5 g10); omega, c22]; exact om_f91b5c94 pre0 h23) (by exact om_18fc54d4 g10 g11 hm13 h23 h25)
        · skip
          refine tr_iload_n dX11_find_21 hl9 ?_
          exact tr_iret hZ dX11_find_22 rfl (by decide) (by decide) ⟨v6, rfl, rfl, rfl, rfl, rfl, rfl, rfl, (by exact om_a90745e2 g10 g11 b17.2 b17.1 h18), (fun t ht => by obtain rfl := Option.some.inj (d3.symm.trans ht); exact Or.inr ⟨by exact om_2cfcd5a5 g10, by rw [c16]; exact om_b6fabb1f h18, (congrArg Int64.toInt c22).trans (by exact om_9fa72578 pre0 h23)⟩), trivial⟩
  exact lp13 _ _ v4 rfl rfl rfl (by exact om_d99fa9e4 h5) (by exact om_c860a757 h5) (fun k hk => by exact om_8279ceb6 h5 hk) (Nat.lt_succ_self _)
def wik_X12_readFresh : List Nat := [968, 969, 970, 971, 972, 973, 974]
def wrk_X12_readFresh : List Nat := []
def wlk_X12_readFresh : List Nat := [975]
set_option maxHeartbeats 4000000 in
theorem fk_X12_readFresh {l : Launch} {T : Nat → Nat} {cn : Nat} {K N : Nat → Nat} {I0 : cz_I} {R0 : cz_R} {L0 : cz_L} (hW0 : Wf T cn K N I0 R0 0) (gB : cz_B) (gs : Int) (gQ : Nat → Int) {a0 : Nat} (ta0 : T a0 = 15) (hT : ∀ t, R0 a0 5 = some t → Tx I0 t gB) (hN : ∀ b, R0 a0 4 = some b → NmM I0 R0 L0 b gQ) (pre0 : (I0 a0 9).toInt = (tkM gB gs)) (pre1 : (I0 a0 9).toInt ≤ 4) (pre2 : (I0 a0 10).toInt = (tkS gB gs)) (pre3 : (I0 a0 11).toInt = (tkG gB gs)) (pre4 : (AtW ((tkK gB gs)) ((L0 a0 15).toInt) ((tkW gB gs)))) (pre5 : (AtV ((tkK gB gs)) ((I0 a0 12).toInt) ((tkV gB gs)))) (pre6 : (AtN ((tkK gB gs)) ((I0 a0 8).toInt) ((tkN gB gs)))) (pre7 : (I0 a0 7).toInt = (gB.2)) (pre8 : ∀ b1, R0 a0 4 = some b1 → (I0 b1 3).toInt = (gQ 3)) (pre9 : ∀ b1, R0 a0 4 = some b1 → (I0 b1 4).toInt = (gQ 4)) (nn4 : ∃ b, R0 a0 4 = some b) : ConE l mX12_readFresh [.ref a0] cn K N I0 R0 L0 (ca_l (fun v cn' K' N' I' R' L' => cn = cn' ∧ K = K' ∧ N = N' ∧ R0 = R' ∧ St T cn K N 0 wik_X12_readFresh wrk_X12_readFresh I0 R0 I' R0 ∧ (((v.toInt = (tkW gB gs)) ∧ ((isN gB gs) = 1) ∧ ((tkK gB gs) = 1) ∧ ((nmI gQ 100 (gQ 3) (tkW gB gs)) = -1) ∧ ((nmI gQ 200 (gQ 4) (tkW gB gs)) = -1) ∧ ((I' a0 13).toInt = (I0 a0 13).toInt) ∧ ((I' a0 9).toInt = (tkM gB (tkN gB gs))) ∧ ((I' a0 9).toInt ≤ 4) ∧ ((I' a0 10).toInt = (tkS gB (tkN gB gs))) ∧ ((I' a0 11).toInt = (tkG gB (tkN gB gs))) ∧ ((AtW ((tkK gB (tkN gB gs))) ((L' a0 15).toInt) ((tkW gB (tkN gB gs))))) ∧ ((AtV ((tkK gB (tkN gB gs))) ((I' a0 12).toInt) ((tkV gB (tkN gB gs))))) ∧ ((AtN ((tkK gB (tkN gB gs))) ((I' a0 8).toInt) ((tkN gB (tkN gB gs))))) ∧ LgS T wlk_X12_readFresh L0 L' ∧ True) ∨ (((isN gB gs) ≠ 1) ∧ ((I' a0 9).toInt = 5) ∧ ((I' a0 13).toInt = 1) ∧ ((I' a0 14).toInt = (tkS gB gs)) ∧ True) ∨ (((isN gB gs) = 1) ∧ (((nmI gQ 100 (gQ 3) (tkW gB gs)) ≠ -1 ∨ (nmI gQ 200 (gQ 4) (tkW gB gs)) ≠ -1)) ∧ ((I' a0 9).toInt = 5) ∧ ((I' a0 13).toInt = 3) ∧ ((I' a0 14).toInt = (tkS gB gs)) ∧ True)) ∧ True)) := by
  refine ConE.of (by decide +kernel) rfl (Nat.le_of_ble_eq_true rfl) rfl (fun X hX hZ hE => ?_)
  subst hX
  have hS0 : St T cn K N 0 wik_X12_readFresh wrk_X12_readFresh I0 R0 I0 R0 := St.rf0 hW0
  have hL0 : LgS T wlk_X12_readFresh L0 L0 := LgS.rf0
  obtain ⟨a1, d2⟩ := nn4
  have ta1 : T a1 = 14 := hW0.rsN ta0 rfl d2
  obtain ⟨v3, c4⟩ : ∃ v, I0 a0 9 = v := ⟨_, rfl⟩
  have b5 := iv15_9 hS0.1 ta0 c4
  have p6 := pre0
  rw [c4] at p6
  have p7 := pre1
  rw [c4] at p7
  obtain ⟨v8, c9⟩ : ∃ v, I0 a0 10 = v := ⟨_, rfl⟩
  have b10 := iv15_10 hS0.1 ta0 c9
  have p11 := pre2
  rw [c9] at p11
  obtain ⟨v12, c13⟩ : ∃ v, I0 a0 11 = v := ⟨_, rfl⟩
  have p14 := pre3
  rw [c13] at p14
  obtain ⟨y15, c16⟩ : ∃ v, L0 a0 15 = v := ⟨_, rfl⟩
  have p17 := pre4
  rw [c16] at p17
  obtain ⟨v18, c19⟩ : ∃ v, I0 a0 12 = v := ⟨_, rfl⟩
  have p20 := pre5
  rw [c19] at p20
  obtain ⟨v21, c22⟩ : ∃ v, I0 a0 8 = v := ⟨_, rfl⟩
  have b23 := iv15_8 hS0.1 ta0 c22
  have p24 := pre6
  rw [c22] at p24
  obtain ⟨v25, c26⟩ : ∃ v, I0 a0 7 = v := ⟨_, rfl⟩
  have b27 := iv15_7 hW0 ta0 c26
  have p28 := pre7
  rw [c26] at p28
  obtain ⟨v29, c30⟩ : ∃ v, I0 a1 3 = v := ⟨_, rfl⟩
  have b31 := iv14_3 hW0 ta1 c30
  have p32 := pre8 _ d2
  rw [c30] at p32
  obtain ⟨v33, c34⟩ : ∃ v, I0 a1 4 = v := ⟨_, rfl⟩
  have b35 := iv14_4 hW0 ta1 c34
  have p36 := pre9 _ d2
  rw [c34] at p36
  obtain ⟨v37, c38⟩ : ∃ v, I0 a0 13 = v := ⟨_, rfl⟩
  have hM0 := hN _ d2
  refine tr_aload_n dX12_readFresh_0 rfl ?_
  refine q_callVi hE (M' := mX12_isName) (as := []) dX12_readFresh_1 lk12_197 inX12_isName seX12_isName myX12_isName (by decide) ⟨by decide, by decide⟩ rfl (kR15 hS0.1 ta0) (Nat.le_of_ble_eq_true rfl) rfl rfl (by decide) (by decide) (fk_X12_isName hS0.1 (gB) (gs) ta0 (by (try rw [c4]); first | done | with_reducible assumption | omega) (by (try rw [c16]); first | done | assumption)) ?_
  rintro v44 cn' K' N' I39 R40 L41 ⟨rfl, rfl, rfl, rfl, rfl, rfl, h45, dj46, -⟩
  rcases dj46 with ⟨p47, p48, p49, -⟩ | ⟨p50, p51, -⟩
  · skip
    refine q_if_ne 12 dX12_readFresh_4 (by decide) (fun h52 => ?_) (fun h52 => ?_)
    · skip
      refine tr_aload_n dX12_readFresh_12 rfl ?_
      refine tr_getR dX12_readFresh_13 fl12_188 (kR15 hS0.1 ta0) d2 ?_
      refine tr_aload_n dX12_readFresh_16 rfl ?_
      have p53 := p17 (by exact om_ee8a1e2d p49)
      refine q_getLE dX12_readFresh_17 fl12_118 (kR15 hS0.1 ta0) c16 ?_
      refine q_callVi hE (M' := mX11_find) (as := [_]) dX12_readFresh_20 lk12_201 inX11_find seX11_find myX11_find (by decide) ⟨by decide, by decide⟩ rfl (kR14 hS0.1 ta1) (Nat.le_of_ble_eq_true rfl) rfl rfl (by decide) (by decide) (fk_X11_find hS0.1 ((tkW gB gs)) ta1 (by first | done | with_reducible assumption | omega)) ?_
      rintro v59 cn' K' N' I54 R55 L56 ⟨rfl, rfl, rfl, rfl, rfl, rfl, h60, rp61, -⟩
      obtain ⟨v64, c65⟩ : ∃ v, I0 a1 7 = v := ⟨_, rfl⟩
      have b66 := iv14_7 hW0 ta1 c65
      have p63 := hS0.1.2.2.2.2.1 a0 ta0 _ d2
      rw [c65, c30, c34] at p63
      have fd62 := fd_told hM0 hS0.1 ta1 rp61 (by rw [c65]; exact om_0c68f310 p32 p36 p63)
      rw [c65] at fd62
      refine q_iconst dX12_readFresh_23 (by decide) ?_
      intro v67 h68
      refine q_icmp_eq 32 dX12_readFresh_24 (by decide) (fun h69 => ?_) (fun h69 => ?_)
      · skip
        refine tr_aload_n dX12_readFresh_32 rfl ?_
        refine q_getLE dX12_readFresh_33 fl12_118 (kR15 hS0.1 ta0) c16 ?_
        refine tr_lstore_n dX12_readFresh_36 (by decide) (by decide) (by decide) ?_
        refine tr_aload_n dX12_readFresh_37 rfl ?_
        have p70 := p24 (by exact om_e0d38eff p49)
        refine q_callVv hE (M' := mX12_goesOn) (as := []) dX12_readFresh_38 lk12_142 inX12_goesOn seX12_goesOn myX12_goesOn (by decide) ⟨by decide, by decide⟩ rfl (kR15 hS0.1 ta0) (Nat.le_of_ble_eq_true rfl) rfl rfl (by decide) (by decide) (fk_X12_goesOn hS0.1 (gB) ((tkN gB gs)) ta0 (TxA.kp hT hS0 ta0 rfl rfl rfl (by decide +kernel) (by decide +kernel)) (by (try rw [c22]); first | done | with_reducible assumption | omega) (by (try rw [c26]); first | done | with_reducible assumption | omega) (by (try rw [c4]); first | done | with_reducible assumption | exact om_df98ac7c pre0 pre1 b5.2 b5.1 p6)) ?_
        rintro cn' K' N' I71 R72 L73 ⟨rfl, rfl, rfl, rfl, g74, gl75, p77, p78, p79, p80, p81, p82, p83, -⟩
        have hM84 : NmM I71 R0 L0 a1 gQ := NmM.kpS hM0 g74 hS0.1 ta1 (by decide +kernel) (by decide +kernel)
        have hS85 := hS0.tr g74 (by decide +kernel) (by decide +kernel)
        have c86 : I71 a0 13 = v37 := (g74.cell ta0 (by decide +kernel)).trans c38
        have hL87 := hL0.tr gl75 (by decide +kernel)
        have hM88 : NmM I71 R0 L73 a1 gQ := NmM.kpL hM84 gl75 hS85.1 ta1 (by decide +kernel)
        obtain ⟨v89, c90⟩ : ∃ v, I71 a0 9 = v := ⟨_, rfl⟩
        have b91 := iv15_9 hS85.1 ta0 c90
        rw [c90] at p77
        rw [c90] at p78
        obtain ⟨v92, c93⟩ : ∃ v, I71 a0 10 = v := ⟨_, rfl⟩
        have b94 := iv15_10 hS85.1 ta0 c93
        rw [c93] at p79
        obtain ⟨v95, c96⟩ : ∃ v, I71 a0 11 = v := ⟨_, rfl⟩
        rw [c96] at p80
        obtain ⟨y97, c98⟩ : ∃ v, L73 a0 15 = v := ⟨_, rfl⟩
        rw [c98] at p81
        obtain ⟨v99, c100⟩ : ∃ v, I71 a0 12 = v := ⟨_, rfl⟩
        rw [c100] at p82
        obtain ⟨v101, c102⟩ : ∃ v, I71 a0 8 = v := ⟨_, rfl⟩
        have b103 := iv15_8 hS85.1 ta0 c102
        rw [c102] at p83
        refine tr_lload_n dX12_readFresh_41 rfl ?_
        obtain ⟨v104, c105⟩ : ∃ v, I71 a0 14 = v := ⟨_, rfl⟩
        exact tr_lret hZ dX12_readFresh_42 rfl (by decide) (by decide) ⟨y15, rfl, rfl, rfl, rfl, rfl, hS85, (Or.inl ⟨(by first | done | with_reducible assumption | omega), (by first | done | with_reducible assumption | omega), (by first | done | with_reducible assumption | omega), (by first | done | with_reducible assumption | exact om_8398925b fd62 h68 h69), (by first | done | with_reducible assumption | exact om_500a6f2f fd62 h68 h69), (by (try rw [c86]); (try rw [c38]); first | done | with_reducible assumption | omega), (by (try rw [c90]); first | done | with_reducible assumption | omega), (by (try rw [c90]); first | done | with_reducible assumption | omega), (by (try rw [c93]); first | done | with_reducible assumption | omega), (by (try rw [c96]); first | done | with_reducible assumption | omega), (by (try rw [c98]); first | done | assumption), (by (try rw [c100]); first | done | assumption), (by (try rw [c102]); first | done | assumption), hL87, trivial⟩), trivial⟩
      · skip
        refine tr_aload_n dX12_readFresh_27 rfl ?_
        refine q_iconst dX12_readFresh_28 (by decide) ?_
        intro v106 h107
        refine q_callVv hE (M' := mX12_flaw) (as := [_]) dX12_readFresh_29 lk12_145 inX12_flaw seX12_flaw myX12_flaw (by decide) ⟨by decide, by decide⟩ rfl (kR15 hS0.1 ta0) (Nat.le_of_ble_eq_true rfl) rfl rfl (by decide) (by decide) (fk_X12_flaw hS0.1  ta0 (by exact om_7e011daf h107) (by (try rw [c4]); first | done | with_reducible assumption | exact om_df98ac7c pre0 pre1 b5.2 b5.1 p6)) ?_
        rintro cn' K' N' I108 R109 L110 ⟨rfl, rfl, rfl, rfl, rfl, g111, p114, p115, p116, -⟩
        have hM117 : NmM I108 R0 L0 a1 gQ := NmM.kpS hM0 g111 hS0.1 ta1 (by decide +kernel) (by decide +kernel)
        have hS118 := hS0.tr g111 (by decide +kernel) (by decide +kernel)
        have c119 : I108 a0 10 = v8 := (g111.cell ta0 (by decide +kernel)).trans c9
        have c120 : I108 a0 11 = v12 := (g111.cell ta0 (by decide +kernel)).trans c13
        have c121 : I108 a0 12 = v18 := (g111.cell ta0 (by decide +kernel)).trans c19
        have c122 : I108 a0 8 = v21 := (g111.cell ta0 (by decide +kernel)).trans c22
        obtain ⟨v123, c124⟩ : ∃ v, I108 a0 9 = v := ⟨_, rfl⟩
        have b125 := iv15_9 hS118.1 ta0 c124
        rw [c124] at p114
        obtain ⟨v126, c127⟩ : ∃ v, I108 a0 13 = v := ⟨_, rfl⟩
        rw [c127] at p115
        obtain ⟨v128, c129⟩ : ∃ v, I108 a0 14 = v := ⟨_, rfl⟩
        rw [c129] at p116
        rw [c9] at p116
        refine tr_aload_n dX12_readFresh_32 rfl ?_
        refine q_getLE dX12_readFresh_33 fl12_118 (kR15 hS118.1 ta0) c16 ?_
        refine tr_lstore_n dX12_readFresh_36 (by decide) (by decide) (by decide) ?_
        refine tr_aload_n dX12_readFresh_37 rfl ?_
        refine q_callVv hE (M' := mX12_goesOn) (as := []) dX12_readFresh_38 lk12_142 inX12_goesOn seX12_goesOn myX12_goesOn (by decide) ⟨by decide, by decide⟩ rfl (kR15 hS118.1 ta0) (Nat.le_of_ble_eq_true rfl) rfl rfl (by decide) (by decide) (k_X12_goesOn hS118.1 ta0) ?_
        rintro cn' K' N' I130 R131 L132 ⟨rfl, rfl, rfl, rfl, g133, p135, p136, p137, w138, -⟩
        have hS139 := hS118.tr g133 (by decide +kernel) (by decide +kernel)
        have c140 : I130 a0 13 = v126 := (g133.cell ta0 (by decide +kernel)).trans c127
        have c141 : I130 a0 14 = v128 := (g133.cell ta0 (by decide +kernel)).trans c129
        obtain ⟨v142, c143⟩ : ∃ v, I130 a0 9 = v := ⟨_, rfl⟩
        have b144 := iv15_9 hS139.1 ta0 c143
        rw [c124] at p135
        rw [c143] at p135
        rw [c124] at p136
        rw [c143] at p136
        obtain ⟨v145, c146⟩ : ∃ v, I130 a0 8 = v := ⟨_, rfl⟩
        have b147 := iv15_8 hS139.1 ta0 c146
        rw [c146] at p137
        rw [c122] at p137
        rw [c140] at p137
        rw [c127] at p137
        have ov148 := w138.over (by rw [c124]; exact om_394b70a2 p114)
        obtain ⟨v149, c150⟩ : ∃ v, I130 a0 9 = v := ⟨_, rfl⟩
        have b151 := iv15_9 hS139.1 ta0 c150
        obtain ⟨v152, c153⟩ : ∃ v, I130 a0 13 = v := ⟨_, rfl⟩
        obtain ⟨v154, c155⟩ : ∃ v, I130 a0 14 = v := ⟨_, rfl⟩
        (try rw [c150] at ov148)
        (try rw [c153] at ov148)
        (try rw [c155] at ov148)
        (try rw [c124] at ov148)
        (try rw [c127] at ov148)
        (try rw [c129] at ov148)
        refine tr_lload_n dX12_readFresh_41 rfl ?_
        obtain ⟨v156, c157⟩ : ∃ v, I130 a0 10 = v := ⟨_, rfl⟩
        have b158 := iv15_10 hS139.1 ta0 c157
        obtain ⟨v159, c160⟩ : ∃ v, I130 a0 11 = v := ⟨_, rfl⟩
        obtain ⟨y161, c162⟩ : ∃ v, L132 a0 15 = v := ⟨_, rfl⟩
        obtain ⟨v163, c164⟩ : ∃ v, I130 a0 12 = v := ⟨_, rfl⟩
        exact tr_lret hZ dX12_readFresh_42 rfl (by decide) (by decide) ⟨y15, rfl, rfl, rfl, rfl, rfl, hS139, (Or.inr (Or.inr (⟨(by first | done | with_reducible assumption | omega), (by first | done | with_reducible assumption | exact om_93d21047 h60.2 h60.1 fd62 h68 h69 p114 p136 p135 b144.2 b144.1), (by (try rw [c150]); first | done | with_reducible assumption | exact om_394b70a2 ov148.1), (by (try rw [c153]); first | done | with_reducible assumption | exact om_c5e63cc3 h107 p115 ov148.2.1), (by (try rw [c155]); first | done | with_reducible assumption | exact om_1c22ab7e p11 p116 ov148.2.2), trivial⟩))), trivial⟩
    · skip
      exfalso; exact om_3624102b p47 h52
  · skip
    refine q_if_ne 12 dX12_readFresh_4 (by decide) (fun h165 => ?_) (fun h165 => ?_)
    · skip
      exfalso; exact om_3a97d4a5 p50 h165
    · skip
      refine tr_aload_n dX12_readFresh_7 rfl ?_
      refine q_iconst dX12_readFresh_8 (by decide) ?_
      intro v166 h167
      refine q_callVv hE (M' := mX12_flaw) (as := [_]) dX12_readFresh_9 lk12_145 inX12_flaw seX12_flaw myX12_flaw (by decide) ⟨by decide, by decide⟩ rfl (kR15 hS0.1 ta0) (Nat.le_of_ble_eq_true rfl) rfl rfl (by decide) (by decide) (fk_X12_flaw hS0.1  ta0 (by exact om_95922198 h167) (by (try rw [c4]); first | done | with_reducible assumption | exact om_df98ac7c pre0 pre1 b5.2 b5.1 p6)) ?_
      rintro cn' K' N' I168 R169 L170 ⟨rfl, rfl, rfl, rfl, rfl, g171, p174, p175, p176, -⟩
      have hM177 : NmM I168 R0 L0 a1 gQ := NmM.kpS hM0 g171 hS0.1 ta1 (by decide +kernel) (by decide +kernel)
      have hS178 := hS0.tr g171 (by decide +kernel) (by decide +kernel)
      have c179 : I168 a0 10 = v8 := (g171.cell ta0 (by decide +kernel)).trans c9
      have c180 : I168 a0 11 = v12 := (g171.cell ta0 (by decide +kernel)).trans c13
      have c181 : I168 a0 12 = v18 := (g171.cell ta0 (by decide +kernel)).trans c19
      have c182 : I168 a0 8 = v21 := (g171.cell ta0 (by decide +kernel)).trans c22
      obtain ⟨v183, c184⟩ : ∃ v, I168 a0 9 = v := ⟨_, rfl⟩
      have b185 := iv15_9 hS178.1 ta0 c184
      rw [c184] at p174
      obtain ⟨v186, c187⟩ : ∃ v, I168 a0 13 = v := ⟨_, rfl⟩
      rw [c187] at p175
      obtain ⟨v188, c189⟩ : ∃ v, I168 a0 14 = v := ⟨_, rfl⟩
      rw [c189] at p176
      rw [c9] at p176
      refine tr_aload_n dX12_readFresh_12 rfl ?_
      refine tr_getR dX12_readFresh_13 fl12_188 (kR15 hS178.1 ta0) d2 ?_
      refine tr_aload_n dX12_readFresh_16 rfl ?_
      refine q_getLE dX12_readFresh_17 fl12_118 (kR15 hS178.1 ta0) c16 ?_
      refine q_callVi hE (M' := mX11_find) (as := [_]) dX12_readFresh_20 lk12_201 inX11_find seX11_find myX11_find (by decide) ⟨by decide, by decide⟩ rfl (kR14 hS178.1 ta1) (Nat.le_of_ble_eq_true rfl) rfl rfl (by decide) (by decide) (k_X11_find hS178.1 ta1) ?_
      rintro v194 cn' K' N' I190 R191 L192 ⟨rfl, rfl, rfl, rfl, rfl, rfl, h195, -⟩
      refine q_iconst dX12_readFresh_23 (by decide) ?_
      intro v196 h197
      refine q_icmp_eq 32 dX12_readFresh_24 (by decide) (fun h198 => ?_) (fun h198 => ?_)
      · skip
        refine tr_aload_n dX12_readFresh_32 rfl ?_
        refine q_getLE dX12_readFresh_33 fl12_118 (kR15 hS178.1 ta0) c16 ?_
        refine tr_lstore_n dX12_readFresh_36 (by decide) (by decide) (by decide) ?_
        refine tr_aload_n dX12_readFresh_37 rfl ?_
        refine q_callVv hE (M' := mX12_goesOn) (as := []) dX12_readFresh_38 lk12_142 inX12_goesOn seX12_goesOn myX12_goesOn (by decide) ⟨by decide, by decide⟩ rfl (kR15 hS178.1 ta0) (Nat.le_of_ble_eq_true rfl) rfl rfl (by decide) (by decide) (k_X12_goesOn hS178.1 ta0) ?_
        rintro cn' K' N' I199 R200 L201 ⟨rfl, rfl, rfl, rfl, g202, p204, p205, p206, w207, -⟩
        have hS208 := hS178.tr g202 (by decide +kernel) (by decide +kernel)
        have c209 : I199 a0 13 = v186 := (g202.cell ta0 (by decide +kernel)).trans c187
        have c210 : I199 a0 14 = v188 := (g202.cell ta0 (by decide +kernel)).trans c189
        obtain ⟨v211, c212⟩ : ∃ v, I199 a0 9 = v := ⟨_, rfl⟩
        have b213 := iv15_9 hS208.1 ta0 c212
        rw [c184] at p204
        rw [c212] at p204
        rw [c184] at p205
        rw [c212] at p205
        obtain ⟨v214, c215⟩ : ∃ v, I199 a0 8 = v := ⟨_, rfl⟩
        have b216 := iv15_8 hS208.1 ta0 c215
        rw [c215] at p206
        rw [c182] at p206
        rw [c209] at p206
        rw [c187] at p206
        have ov217 := w207.over (by rw [c184]; exact om_394b70a2 p174)
        obtain ⟨v218, c219⟩ : ∃ v, I199 a0 9 = v := ⟨_, rfl⟩
        have b220 := iv15_9 hS208.1 ta0 c219
        obtain ⟨v221, c222⟩ : ∃ v, I199 a0 13 = v := ⟨_, rfl⟩
        obtain ⟨v223, c224⟩ : ∃ v, I199 a0 14 = v := ⟨_, rfl⟩
        (try rw [c219] at ov217)
        (try rw [c222] at ov217)
        (try rw [c224] at ov217)
        (try rw [c184] at ov217)
        (try rw [c187] at ov217)
        (try rw [c189] at ov217)
        refine tr_lload_n dX12_readFresh_41 rfl ?_
        obtain ⟨v225, c226⟩ : ∃ v, I199 a0 10 = v := ⟨_, rfl⟩
        have b227 := iv15_10 hS208.1 ta0 c226
        obtain ⟨v228, c229⟩ : ∃ v, I199 a0 11 = v := ⟨_, rfl⟩
        obtain ⟨y230, c231⟩ : ∃ v, L201 a0 15 = v := ⟨_, rfl⟩
        obtain ⟨v232, c233⟩ : ∃ v, I199 a0 12 = v := ⟨_, rfl⟩
        exact tr_lret hZ dX12_readFresh_42 rfl (by decide) (by decide) ⟨y15, rfl, rfl, rfl, rfl, rfl, hS208, (Or.inr (Or.inl ⟨(by first | done | with_reducible assumption | omega), (by (try rw [c219]); first | done | with_reducible assumption | exact om_394b70a2 ov217.1), (by (try rw [c222]); first | done | with_reducible assumption | exact om_148142d1 h167 p175 ov217.2.1), (by (try rw [c224]); first | done | with_reducible assumption | exact om_1c22ab7e p11 p176 ov217.2.2), trivial⟩)), trivial⟩
      · skip
        refine tr_aload_n dX12_readFresh_27 rfl ?_
        refine q_iconst dX12_readFresh_28 (by decide) ?_
        intro v234 h235
        refine q_callVv hE (M' := mX12_flaw) (as := [_]) dX12_readFresh_29 lk12_145 inX12_flaw seX12_flaw myX12_flaw (by decide) ⟨by decide, by decide⟩ rfl (kR15 hS178.1 ta0) (Nat.le_of_ble_eq_true rfl) rfl rfl (by decide) (by decide) (k_X12_flaw hS178.1 ta0 (by exact om_7e011daf h235)) ?_
        rintro cn' K' N' I236 R237 L238 ⟨rfl, rfl, rfl, rfl, rfl, g239, p241, p242, w243, -⟩
        have hS244 := hS178.tr g239 (by decide +kernel) (by decide +kernel)
        have c245 : I236 a0 10 = v8 := (g239.cell ta0 (by decide +kernel)).trans c179
        have c246 : I236 a0 11 = v12 := (g239.cell ta0 (by decide +kernel)).trans c180
        have c247 : I236 a0 12 = v18 := (g239.cell ta0 (by decide +kernel)).trans c181
        have c248 : I236 a0 8 = v21 := (g239.cell ta0 (by decide +kernel)).trans c182
        obtain ⟨v249, c250⟩ : ∃ v, I236 a0 9 = v := ⟨_, rfl⟩
        have b251 := iv15_9 hS244.1 ta0 c250
        rw [c250] at p241
        rw [c248] at p242
        rw [c182] at p242
        have ov252 := w243.over (by rw [c184]; exact om_394b70a2 p174)
        obtain ⟨v253, c254⟩ : ∃ v, I236 a0 9 = v := ⟨_, rfl⟩
        have b255 := iv15_9 hS244.1 ta0 c254
        obtain ⟨v256, c257⟩ : ∃ v, I236 a0 13 = v := ⟨_, rfl⟩
        obtain ⟨v258, c259⟩ : ∃ v, I236 a0 14 = v := ⟨_, rfl⟩
        (try rw [c254] at ov252)
        (try rw [c257] at ov252)
        (try rw [c259] at ov252)
        (try rw [c184] at ov252)
        (try rw [c187] at ov252)
        (try rw [c189] at ov252)
        refine tr_aload_n dX12_readFresh_32 rfl ?_
        refine q_getLE dX12_readFresh_33 fl12_118 (kR15 hS244.1 ta0) c16 ?_
        refine tr_lstore_n dX12_readFresh_36 (by decide) (by decide) (by decide) ?_
        refine tr_aload_n dX12_readFresh_37 rfl ?_
        refine q_callVv hE (M' := mX12_goesOn) (as := []) dX12_readFresh_38 lk12_142 inX12_goesOn seX12_goesOn myX12_goesOn (by decide) ⟨by decide, by decide⟩ rfl (kR15 hS244.1 ta0) (Nat.le_of_ble_eq_true rfl) rfl rfl (by decide) (by decide) (k_X12_goesOn hS244.1 ta0) ?_
        rintro cn' K' N' I260 R261 L262 ⟨rfl, rfl, rfl, rfl, g263, p265, p266, p267, w268, -⟩
        have hS269 := hS244.tr g263 (by decide +kernel) (by decide +kernel)
        have c270 : I260 a0 13 = v256 := (g263.cell ta0 (by decide +kernel)).trans c257
        have c271 : I260 a0 14 = v258 := (g263.cell ta0 (by decide +kernel)).trans c259
        obtain ⟨v272, c273⟩ : ∃ v, I260 a0 9 = v := ⟨_, rfl⟩
        have b274 := iv15_9 hS269.1 ta0 c273
        rw [c254] at p265
        rw [c273] at p265
        rw [c254] at p266
        rw [c273] at p266
        obtain ⟨v275, c276⟩ : ∃ v, I260 a0 8 = v := ⟨_, rfl⟩
        have b277 := iv15_8 hS269.1 ta0 c276
        rw [c276] at p267
        rw [c248] at p267
        rw [c270] at p267
        rw [c257] at p267
        have ov278 := w268.over (by rw [c254]; exact om_394b70a2 ov252.1)
        obtain ⟨v279, c280⟩ : ∃ v, I260 a0 9 = v := ⟨_, rfl⟩
        have b281 := iv15_9 hS269.1 ta0 c280
        obtain ⟨v282, c283⟩ : ∃ v, I260 a0 13 = v := ⟨_, rfl⟩
        obtain ⟨v284, c285⟩ : ∃ v, I260 a0 14 = v := ⟨_, rfl⟩
        (try rw [c280] at ov278)
        (try rw [c283] at ov278)
        (try rw [c285] at ov278)
        (try rw [c254] at ov278)
        (try rw [c257] at ov278)
        (try rw [c259] at ov278)
        refine tr_lload_n dX12_readFresh_41 rfl ?_
        obtain ⟨v286, c287⟩ : ∃ v, I260 a0 10 = v := ⟨_, rfl⟩
        have b288 := iv15_10 hS269.1 ta0 c287
        obtain ⟨v289, c290⟩ : ∃ v, I260 a0 11 = v := ⟨_, rfl⟩
        obtain ⟨y291, c292⟩ : ∃ v, L262 a0 15 = v := ⟨_, rfl⟩
        obtain ⟨v293, c294⟩ : ∃ v, I260 a0 12 = v := ⟨_, rfl⟩
        exact tr_lret hZ dX12_readFresh_42 rfl (by decide) (by decide) ⟨y15, rfl, rfl, rfl, rfl, rfl, hS269, (Or.inr (Or.inl ⟨(by first | done | with_reducible assumption | omega), (by (try rw [c280]); first | done | with_reducible assumption | exact om_394b70a2 ov278.1), (by (try rw [c283]); first | done | with_reducible assumption | exact om_c5dea795 h167 p175 ov252.2.1 ov278.2.1), (by (try rw [c285]); first | done | with_reducible assumption | exact om_751d021b p11 p176 ov252.2.2 ov278.2.2), trivial⟩)), trivial⟩
def wik_X12_names : List Nat := [903, 4799, 4863]
def wrk_X12_names : List Nat := []
def wlk_X12_names : List Nat := [4735]
set_option maxHeartbeats 4000000 in
theorem fk_X12_names {l : Launch} {T : Nat → Nat} {cn : Nat} {K N : Nat → Nat} {I0 : cz_I} {R0 : cz_R} {L0 : cz_L} (hW0 : Wf T cn K N I0 R0 0)  {a0 : Nat} (ta0 : T a0 = 15) {y1 : Int64} {x2 : Int32} {x3 : Int32} (pre0 : ∀ b1, R0 a0 4 = some b1 → (I0 b1 7).toInt ≤ 12) (nn4 : ∃ b, R0 a0 4 = some b) : ConE l mX12_names [.ref a0, .long y1, .int x2, .int x3] cn K N I0 R0 L0 (ca_v (fun cn' K' N' I' R' L' => cn = cn' ∧ K = K' ∧ N = N' ∧ R0 = R' ∧ St T cn K N 1 wik_X12_names wrk_X12_names I0 R0 I' R0 ∧ LgS T wlk_X12_names L0 L' ∧ (∀ b, R0 a0 4 = some b → NaW I0 R0 L0 b y1 x2 x3 I' L') ∧ (∀ dr, R0 a0 4 = some dr → FrO 14 dr T I0 I') ∧ True)) := by
  refine ConE.of (by decide +kernel) rfl (Nat.le_of_ble_eq_true rfl) rfl (fun X hX hZ hE => ?_)
  subst hX
  have hS0 : St T cn K N 0 wik_X12_names wrk_X12_names I0 R0 I0 R0 := St.rf0 hW0
  have hL0 : LgS T wlk_X12_names L0 L0 := LgS.rf0
  obtain ⟨a1, d2⟩ := nn4
  have ta1 : T a1 = 14 := hW0.rsN ta0 rfl d2
  obtain ⟨v3, c4⟩ : ∃ v, I0 a1 7 = v := ⟨_, rfl⟩
  have b5 := iv14_7 hS0.1 ta1 c4
  have p6 := pre0 _ d2
  rw [c4] at p6
  have hO0 : FrO 14 a1 T I0 I0 := FrO.rf
  refine tr_aload_n dX12_names_0 rfl ?_
  refine tr_getR dX12_names_1 fl12_188 (kR15 hS0.1 ta0) d2 ?_
  obtain ⟨a7, d8, ta7⟩ := rf14_30 hW0 ta1
  refine tr_getR dX12_names_4 fl12_205 (kR14 hS0.1 ta1) d8 ?_
  refine tr_aload_n dX12_names_7 rfl ?_
  refine tr_getR dX12_names_8 fl12_188 (kR15 hS0.1 ta0) d2 ?_
  refine q_getI dX12_names_11 fl12_209 (kR14 hS0.1 ta1) c4 ?_
  refine tr_lload_n dX12_names_14 rfl ?_
  refine q_lastE dX12_names_15 (kR73 hS0.1 ta7) (ti_in (nR73 hS0.1 ta7) (by exact om_c4b9cbc2 b5.2 b5.1 p6) (by exact om_be20f1ce b5.2 b5.1 p6)) hL0 ta7 (by rfl) ?_
  intro L9 hL10 e11 f12
  refine tr_aload_n dX12_names_16 rfl ?_
  refine tr_getR dX12_names_17 fl12_188 (kR15 hS0.1 ta0) d2 ?_
  obtain ⟨a13, d14, ta13⟩ := rf14_31 hW0 ta1
  refine tr_getR dX12_names_20 fl12_212 (kR14 hS0.1 ta1) d14 ?_
  refine tr_aload_n dX12_names_23 rfl ?_
  refine tr_getR dX12_names_24 fl12_188 (kR15 hS0.1 ta0) d2 ?_
  refine q_getI dX12_names_27 fl12_209 (kR14 hS0.1 ta1) c4 ?_
  refine tr_iload_n dX12_names_30 rfl ?_
  refine q_iast dX12_names_31 (kR74 hS0.1 ta13) (ti_in (nR74 hS0.1 ta13) (by exact om_c4b9cbc2 b5.2 b5.1 p6) (by exact om_be20f1ce b5.2 b5.1 p6)) hS0 ta13 (iokF rfl) rfl (by rfl) ?_
  intro I15 hS16 e18 f17
  have c19 : I15 a1 7 = v3 := (f17 _ _ (fun q => by have z := ta1; rw [q.1, ta13] at z; exact absurd z (by decide))).trans c4
  have hO20 : FrO 14 a1 T I0 I15 := hO0.put f17 ta13 (Or.inl (by decide))
  refine tr_aload_n dX12_names_32 rfl ?_
  refine tr_getR dX12_names_33 fl12_188 (kR15 hS16.1 ta0) d2 ?_
  obtain ⟨a21, d22, ta21⟩ := rf14_32 hW0 ta1
  refine tr_getR dX12_names_36 fl12_215 (kR14 hS16.1 ta1) d22 ?_
  refine tr_aload_n dX12_names_39 rfl ?_
  refine tr_getR dX12_names_40 fl12_188 (kR15 hS16.1 ta0) d2 ?_
  refine q_getI dX12_names_43 fl12_209 (kR14 hS16.1 ta1) c19 ?_
  refine tr_iload dX12_names_46 rfl ?_
  refine q_iast dX12_names_48 (kR75 hS16.1 ta21) (ti_in (nR75 hS16.1 ta21) (by exact om_c4b9cbc2 b5.2 b5.1 p6) (by exact om_be20f1ce b5.2 b5.1 p6)) hS16 ta21 (iokF rfl) rfl (by rfl) ?_
  intro I23 hS24 e26 f25
  have c27 : I23 a1 7 = v3 := (f25 _ _ (fun q => by have z := ta1; rw [q.1, ta21] at z; exact absurd z (by decide))).trans c19
  have hO28 : FrO 14 a1 T I0 I23 := hO20.put f25 ta21 (Or.inl (by decide))
  refine tr_aload_n dX12_names_49 rfl ?_
  refine tr_getR dX12_names_50 fl12_188 (kR15 hS24.1 ta0) d2 ?_
  refine tr_dup dX12_names_53 rfl ?_
  refine q_getI dX12_names_54 fl12_209 (kR14 hS24.1 ta1) c27 ?_
  refine q_iconst dX12_names_57 (by decide) ?_
  intro v29 h30
  refine q_iaddE dX12_names_58 (by intro j1 j2 j3 j4; exact om_1b409778 b5.2 b5.1 p6 h30) ?_
  intro v31 h32
  refine q_putX dX12_names_59 fl12_209 (kR14 hS24.1 ta1) (Or.inl rfl) hS24 ta1 (by decide +kernel) (hS24.1.putN (d' := 1) ta0 d2 (Or.inl rfl) (by rw [c27]; exact om_73462c49 h30 h32) (by decide) (by show (0 : Int) ≤ v31.toInt ∧ v31.toInt ≤ (13 : Int); exact om_e79c351a b5.2 b5.1 p6 h30 h32)) ?_
  intro I33 hS34 e35 f36
  have hO37 : FrO 14 a1 T I0 I33 := hO28.put f36 ta1 (Or.inr rfl)
  exact tr_vret hZ dX12_names_62 rfl (by decide) (by decide) ⟨rfl, rfl, rfl, rfl, rfl, hS34, hL10, (fun b hb => by obtain rfl := Option.some.inj (d2.symm.trans hb); exact (fun t u w ht hu hw k => by
      obtain rfl := Option.some.inj (d8.symm.trans ht)
      obtain rfl := Option.some.inj (d14.symm.trans hu)
      obtain rfl := Option.some.inj (d22.symm.trans hw)
      have en := ti_nat (i := v3) (by exact om_89eddc96 b5.2 b5.1 p6 h30 h32)
      rw [c4]
      refine ⟨fun hk => ?_, fun hk => ?_⟩
      · obtain rfl : k = v3.toNatClampNeg := by exact om_51a30b71 h30 h32 en hk
        exact ⟨e11, (f36 _ _ (fun q => by have z := ta13; rw [q.1, ta1] at z; exact absurd z (by decide))).trans ((f25 _ _ (fun q => by have z := ta13; rw [q.1, ta21] at z; exact absurd z (by decide))).trans e18), (f36 _ _ (fun q => by have z := ta21; rw [q.1, ta1] at z; exact absurd z (by decide))).trans e26⟩
      · have hk2 : ¬ k = v3.toNatClampNeg := by exact om_14996e7d h30 h32 en hk
        exact ⟨f12 _ _ (fun q => hk2 q.2), (f36 _ _ (fun q => by have z := ta13; rw [q.1, ta1] at z; exact absurd z (by decide))).trans ((f25 _ _ (fun q => by have z := ta13; rw [q.1, ta21] at z; exact absurd z (by decide))).trans (f17 _ _ (fun q => hk2 q.2))), (f36 _ _ (fun q => by have z := ta21; rw [q.1, ta1] at z; exact absurd z (by decide))).trans ((f25 _ _ (fun q => hk2 q.2)).trans (f17 _ _ (fun q => by have z := ta21; rw [q.1, ta13] at z; exact absurd z (by decide))))⟩)), (fun dr hd => (Option.some.inj (d2.symm.trans hd)) ▸ hO37), trivial⟩
def wif_oA48_5 : List Nat := []
def wrf_oA48_5 : List Nat := []
def wlf_oA48_5 : List Nat := []
set_option maxHeartbeats 4000000 in
theorem sf_oA48_5 {X : cz_X} (hE : cz_env X) {T : Nat → Nat} {cn : Nat} {K N : Nat → Nat} {I0 : cz_I} {R0 : cz_R} {L0 : cz_L} {Q : cz_Q} (hZ : cz_Z X mX12_readAlp Q) (hW0 : Wf T cn K N I0 R0 0) (gB : cz_B) {a0 : Nat} (ta0 : T a0 = 15) {x1 : Int32} {x2 : Int32} {x3 : Int32} (hx3 : 5 ≤ x3.toInt ∧ x3.toInt ≤ 5) (pre0 : (I0 a0 9).toInt = 5) (nn4 : ∃ b, R0 a0 4 = some b) {ls : Nat → Option Value} (hl0 : ls 0 = some (.ref a0)) (hl1 : ls 1 = some (.int x1)) (hl2 : ls 2 = some (.int x2)) (hl3 : ls 3 = some (.int x3)) (hq : ∀ (I' : cz_I) (R' : cz_R) (L' : cz_L), St T cn K N 0 wif_oA48_5 wrf_oA48_5 I0 R0 I' R' ∧ ((I' a0 9).toInt = 5) ∧ ((I' a0 13).toInt = (I0 a0 13).toInt) ∧ ((I' a0 14).toInt = (I0 a0 14).toInt) ∧ True → Q none cn K N I' R' L') : Tr X mX12_readAlp 48 ls [] cn K N I0 R0 L0 0 0 := by
  have hS0 : St T cn K N 0 wif_oA48_5 wrf_oA48_5 I0 R0 I0 R0 := St.rf0 hW0
  have hL0 : LgS T wlf_oA48_5 L0 L0 := LgS.rf0
  obtain ⟨a1, d2⟩ := nn4
  have ta1 : T a1 = 14 := hW0.rsN ta0 rfl d2
  obtain ⟨v3, c4⟩ : ∃ v, I0 a0 9 = v := ⟨_, rfl⟩
  have b5 := iv15_9 hW0 ta0 c4
  have p6 := pre0
  rw [c4] at p6
  obtain ⟨v7, c8⟩ : ∃ v, I0 a0 13 = v := ⟨_, rfl⟩
  obtain ⟨v9, c10⟩ : ∃ v, I0 a0 14 = v := ⟨_, rfl⟩
  refine tr_iload_n dX12_readAlp_48 hl3 ?_
  refine q_iconst dX12_readAlp_49 (by decide) ?_
  intro v11 h12
  refine q_icmp_ge 85 dX12_readAlp_50 (by decide) (fun h13 => ?_) (fun h13 => ?_)
  · skip
    refine tr_aload_n dX12_readAlp_85 hl0 ?_
    refine q_getI dX12_readAlp_86 fl12_99 (kR15 hS0.1 ta0) c4 ?_
    refine q_iconst dX12_readAlp_89 (by decide) ?_
    intro v14 h15
    refine q_icmp_ne 94 dX12_readAlp_90 (by decide) (fun h16 => ?_) (fun h16 => ?_)
    · skip
      exfalso; exact om_1fa3e129 p6 h15 h16
    · skip
      exact tr_vret hZ dX12_readAlp_93 rfl (by decide) (by decide) (hq _ _ _ ⟨hS0, (by (try rw [c4]); first | done | with_reducible assumption | omega), (by (try rw [c8]); first | done | with_reducible assumption | omega), (by (try rw [c10]); first | done | with_reducible assumption | omega), trivial⟩)
  · skip
    exfalso; exact om_25a76b5b hx3.2 hx3.1 h12 h13
def wif_oA48_4 : List Nat := [968, 969, 970, 971, 972, 973, 974, 3455]
def wrf_oA48_4 : List Nat := []
def wlf_oA48_4 : List Nat := []
set_option maxHeartbeats 4000000 in
theorem sf_oA48_4 {X : cz_X} (hE : cz_env X) {T : Nat → Nat} {cn : Nat} {K N : Nat → Nat} {I0 : cz_I} {R0 : cz_R} {L0 : cz_L} {Q : cz_Q} (hZ : cz_Z X mX12_readAlp Q) (hW0 : Wf T cn K N I0 R0 0) (gB : cz_B) {a0 : Nat} (ta0 : T a0 = 15) {x1 : Int32} {x2 : Int32} {x3 : Int32} (hx3 : 4 ≤ x3.toInt ∧ x3.toInt ≤ 4) (pre0 : (I0 a0 9).toInt = 5) (nn4 : ∃ b, R0 a0 4 = some b) {ls : Nat → Option Value} (hl0 : ls 0 = some (.ref a0)) (hl1 : ls 1 = some (.int x1)) (hl2 : ls 2 = some (.int x2)) (hl3 : ls 3 = some (.int x3)) (hq : ∀ (I' : cz_I) (R' : cz_R) (L' : cz_L), St T cn K N 0 wif_oA48_4 wrf_oA48_4 I0 R0 I' R' ∧ ((I' a0 9).toInt = 5) ∧ ((I' a0 13).toInt = (I0 a0 13).toInt) ∧ ((I' a0 14).toInt = (I0 a0 14).toInt) ∧ True → Q none cn K N I' R' L') : Tr X mX12_readAlp 48 ls [] cn K N I0 R0 L0 0 0 := by
  have hS0 : St T cn K N 0 wif_oA48_4 wrf_oA48_4 I0 R0 I0 R0 := St.rf0 hW0
  have hL0 : LgS T wlf_oA48_4 L0 L0 := LgS.rf0
  obtain ⟨a1, d2⟩ := nn4
  have ta1 : T a1 = 14 := hW0.rsN ta0 rfl d2
  obtain ⟨v3, c4⟩ : ∃ v, I0 a0 9 = v := ⟨_, rfl⟩
  have b5 := iv15_9 hS0.1 ta0 c4
  have p6 := pre0
  rw [c4] at p6
  obtain ⟨v7, c8⟩ : ∃ v, I0 a0 13 = v := ⟨_, rfl⟩
  obtain ⟨v9, c10⟩ : ∃ v, I0 a0 14 = v := ⟨_, rfl⟩
  refine tr_iload_n dX12_readAlp_48 hl3 ?_
  refine q_iconst dX12_readAlp_49 (by decide) ?_
  intro v11 h12
  refine q_icmp_ge 85 dX12_readAlp_50 (by decide) (fun h13 => ?_) (fun h13 => ?_)
  · skip
    exfalso; exact om_6ef030a8 hx3.2 hx3.1 h12 h13
  · skip
    refine tr_iload_n dX12_readAlp_53 hl3 ?_
    refine q_if_le 63 dX12_readAlp_54 (by decide) (fun h14 => ?_) (fun h14 => ?_)
    · skip
      exfalso; exact om_4e2b5526 hx3.2 hx3.1 h14
    · skip
      refine tr_aload_n dX12_readAlp_57 hl0 ?_
      refine q_bipush dX12_readAlp_58 (by decide +kernel) ?_
      intro v15 h16
      refine q_callVv hE (M' := mX12_needsSign) (as := [_]) dX12_readAlp_60 lk12_257 inX12_needsSign seX12_needsSign myX12_needsSign (by decide) ⟨by decide, by decide⟩ rfl (kR15 hS0.1 ta0) (Nat.le_of_ble_eq_true rfl) rfl rfl (by decide) (by decide) (k_X12_needsSign hS0.1 ta0) ?_
      rintro cn' K' N' I17 R18 L19 ⟨rfl, rfl, rfl, rfl, g20, w22, -⟩
      have hS23 := hS0.tr g20 (by decide +kernel) (by decide +kernel)
      have ov24 := w22.over (by rw [c4]; exact om_394b70a2 p6)
      obtain ⟨v25, c26⟩ : ∃ v, I17 a0 9 = v := ⟨_, rfl⟩
      have b27 := iv15_9 hS23.1 ta0 c26
      obtain ⟨v28, c29⟩ : ∃ v, I17 a0 13 = v := ⟨_, rfl⟩
      obtain ⟨v30, c31⟩ : ∃ v, I17 a0 14 = v := ⟨_, rfl⟩
      (try rw [c26] at ov24)
      (try rw [c29] at ov24)
      (try rw [c31] at ov24)
      (try rw [c4] at ov24)
      (try rw [c8] at ov24)
      (try rw [c10] at ov24)
      refine tr_aload_n dX12_readAlp_63 hl0 ?_
      refine tr_getR dX12_readAlp_64 fl12_188 (kR15 hS23.1 ta0) d2 ?_
      obtain ⟨a32, d33, ta32⟩ := rf14_10 hW0 ta1
      refine tr_getR dX12_readAlp_67 fl12_260 (kR14 hS23.1 ta1) d33 ?_
      refine tr_iload_n dX12_readAlp_70 hl3 ?_
      refine tr_aload_n dX12_readAlp_71 hl0 ?_
      refine q_iconst dX12_readAlp_72 (by decide) ?_
      intro v34 h35
      refine q_bipush dX12_readAlp_73 (by decide +kernel) ?_
      intro v36 h37
      refine q_callVi hE (M' := mX12_readWhole) (as := [_, _]) dX12_readAlp_75 lk12_161 inX12_readWhole seX12_readWhole myX12_readWhole (by decide) ⟨by decide, by decide⟩ rfl (kR15 hS23.1 ta0) (Nat.le_of_ble_eq_true rfl) rfl rfl (by decide) (by decide) (k_X12_readWhole hS23.1 ta0) ?_
      rintro v42 cn' K' N' I38 R39 L40 ⟨rfl, rfl, rfl, rfl, g41, p43, w44, -⟩
      have hS45 := hS23.tr g41 (by decide +kernel) (by decide +kernel)
      have b46 : 0 ≤ v42.toInt ∧ v42.toInt ≤ 99 := by exact om_caf9e5f4 h35 h37 p43
      clear p43
      have ov47 := w44.over (by rw [c26]; exact om_394b70a2 ov24.1)
      obtain ⟨v48, c49⟩ : ∃ v, I38 a0 9 = v := ⟨_, rfl⟩
      have b50 := iv15_9 hS45.1 ta0 c49
      obtain ⟨v51, c52⟩ : ∃ v, I38 a0 13 = v := ⟨_, rfl⟩
      obtain ⟨v53, c54⟩ : ∃ v, I38 a0 14 = v := ⟨_, rfl⟩
      (try rw [c49] at ov47)
      (try rw [c52] at ov47)
      (try rw [c54] at ov47)
      (try rw [c26] at ov47)
      (try rw [c29] at ov47)
      (try rw [c31] at ov47)
      refine q_iast dX12_readAlp_78 (kR53 hS45.1 ta32) (ti_in (nR53 hS45.1 ta32) (by exact om_43532da4 hx3.2 hx3.1) (by exact om_12ac571b hx3.2 hx3.1)) hS45 ta32 (iokF rfl) rfl (by rfl) ?_
      intro I55 hS56 e58 f57
      have c59 : I55 a0 9 = v48 := (f57 _ _ (fun q => by have z := ta0; rw [q.1, ta32] at z; exact absurd z (by decide))).trans c49
      have c60 : I55 a0 13 = v51 := (f57 _ _ (fun q => by have z := ta0; rw [q.1, ta32] at z; exact absurd z (by decide))).trans c52
      have c61 : I55 a0 14 = v53 := (f57 _ _ (fun q => by have z := ta0; rw [q.1, ta32] at z; exact absurd z (by decide))).trans c54
      refine q_iincE dX12_readAlp_79 hl3 (by decide) (by decide) (by intro j1 j2; exact om_8c775024 hx3.2 hx3.1) ?_
      intro v62 h63
      refine tr_goto 48 dX12_readAlp_82 (by decide) ?_
      refine sf_oA48_5 hE hZ hS56.1 (gB) ta0 (by exact om_c9eff619 hx3.2 hx3.1 h63) (by (try rw [c59]); first | done | with_reducible assumption | exact om_394b70a2 ov47.1) ⟨_, d2⟩ hl0 hl1 hl2 rfl ?_
      rintro I64 R65 L66 ⟨g67, p68, p69, p70, -⟩
      obtain rfl : R0 = R65 := funext fun a => funext fun j => (g67.2.2 a j (wm_no rfl)).symm
      have hS71 := hS56.tr g67 (by decide +kernel) (by decide +kernel)
      have c72 : I64 a0 9 = v48 := (g67.cell ta0 (by decide +kernel)).trans c59
      have c73 : I64 a0 13 = v51 := (g67.cell ta0 (by decide +kernel)).trans c60
      have c74 : I64 a0 14 = v53 := (g67.cell ta0 (by decide +kernel)).trans c61
      rw [c72] at p68
      rw [c73] at p69
      rw [c60] at p69
      rw [c74] at p70
      rw [c61] at p70
      exact hq _ _ _ ⟨hS71, (by (try rw [c72]); first | done | with_reducible assumption | omega), (by (try rw [c73]); (try rw [c8]); first | done | with_reducible assumption | exact om_9fa72578 ov24.2.1 ov47.2.1), (by (try rw [c74]); (try rw [c10]); first | done | with_reducible assumption | exact om_9fa72578 ov24.2.2 ov47.2.2), trivial⟩
def wif_oA48_3 : List Nat := [968, 969, 970, 971, 972, 973, 974, 3455]
def wrf_oA48_3 : List Nat := []
def wlf_oA48_3 : List Nat := []
set_option maxHeartbeats 4000000 in
theorem sf_oA48_3 {X : cz_X} (hE : cz_env X) {T : Nat → Nat} {cn : Nat} {K N : Nat → Nat} {I0 : cz_I} {R0 : cz_R} {L0 : cz_L} {Q : cz_Q} (hZ : cz_Z X mX12_readAlp Q) (hW0 : Wf T cn K N I0 R0 0) (gB : cz_B) {a0 : Nat} (ta0 : T a0 = 15) {x1 : Int32} {x2 : Int32} {x3 : Int32} (hx3 : 3 ≤ x3.toInt ∧ x3.toInt ≤ 3) (pre0 : (I0 a0 9).toInt = 5) (nn4 : ∃ b, R0 a0 4 = some b) {ls : Nat → Option Value} (hl0 : ls 0 = some (.ref a0)) (hl1 : ls 1 = some (.int x1)) (hl2 : ls 2 = some (.int x2)) (hl3 : ls 3 = some (.int x3)) (hq : ∀ (I' : cz_I) (R' : cz_R) (L' : cz_L), St T cn K N 0 wif_oA48_3 wrf_oA48_3 I0 R0 I' R' ∧ ((I' a0 9).toInt = 5) ∧ ((I' a0 13).toInt = (I0 a0 13).toInt) ∧ ((I' a0 14).toInt = (I0 a0 14).toInt) ∧ True → Q none cn K N I' R' L') : Tr X mX12_readAlp 48 ls [] cn K N I0 R0 L0 0 0 := by
  have hS0 : St T cn K N 0 wif_oA48_3 wrf_oA48_3 I0 R0 I0 R0 := St.rf0 hW0
  have hL0 : LgS T wlf_oA48_3 L0 L0 := LgS.rf0
  obtain ⟨a1, d2⟩ := nn4
  have ta1 : T a1 = 14 := hW0.rsN ta0 rfl d2
  obtain ⟨v3, c4⟩ : ∃ v, I0 a0 9 = v := ⟨_, rfl⟩
  have b5 := iv15_9 hS0.1 ta0 c4
  have p6 := pre0
  rw [c4] at p6
  obtain ⟨v7, c8⟩ : ∃ v, I0 a0 13 = v := ⟨_, rfl⟩
  obtain ⟨v9, c10⟩ : ∃ v, I0 a0 14 = v := ⟨_, rfl⟩
  refine tr_iload_n dX12_readAlp_48 hl3 ?_
  refine q_iconst dX12_readAlp_49 (by decide) ?_
  intro v11 h12
  refine q_icmp_ge 85 dX12_readAlp_50 (by decide) (fun h13 => ?_) (fun h13 => ?_)
  · skip
    exfalso; exact om_8e8e7379 hx3.2 hx3.1 h12 h13
  · skip
    refine tr_iload_n dX12_readAlp_53 hl3 ?_
    refine q_if_le 63 dX12_readAlp_54 (by decide) (fun h14 => ?_) (fun h14 => ?_)
    · skip
      exfalso; exact om_6650b5b8 hx3.2 hx3.1 h14
    · skip
      refine tr_aload_n dX12_readAlp_57 hl0 ?_
      refine q_bipush dX12_readAlp_58 (by decide +kernel) ?_
      intro v15 h16
      refine q_callVv hE (M' := mX12_needsSign) (as := [_]) dX12_readAlp_60 lk12_257 inX12_needsSign seX12_needsSign myX12_needsSign (by decide) ⟨by decide, by decide⟩ rfl (kR15 hS0.1 ta0) (Nat.le_of_ble_eq_true rfl) rfl rfl (by decide) (by decide) (k_X12_needsSign hS0.1 ta0) ?_
      rintro cn' K' N' I17 R18 L19 ⟨rfl, rfl, rfl, rfl, g20, w22, -⟩
      have hS23 := hS0.tr g20 (by decide +kernel) (by decide +kernel)
      have ov24 := w22.over (by rw [c4]; exact om_394b70a2 p6)
      obtain ⟨v25, c26⟩ : ∃ v, I17 a0 9 = v := ⟨_, rfl⟩
      have b27 := iv15_9 hS23.1 ta0 c26
      obtain ⟨v28, c29⟩ : ∃ v, I17 a0 13 = v := ⟨_, rfl⟩
      obtain ⟨v30, c31⟩ : ∃ v, I17 a0 14 = v := ⟨_, rfl⟩
      (try rw [c26] at ov24)
      (try rw [c29] at ov24)
      (try rw [c31] at ov24)
      (try rw [c4] at ov24)
      (try rw [c8] at ov24)
      (try rw [c10] at ov24)
      refine tr_aload_n dX12_readAlp_63 hl0 ?_
      refine tr_getR dX12_readAlp_64 fl12_188 (kR15 hS23.1 ta0) d2 ?_
      obtain ⟨a32, d33, ta32⟩ := rf14_10 hW0 ta1
      refine tr_getR dX12_readAlp_67 fl12_260 (kR14 hS23.1 ta1) d33 ?_
      refine tr_iload_n dX12_readAlp_70 hl3 ?_
      refine tr_aload_n dX12_readAlp_71 hl0 ?_
      refine q_iconst dX12_readAlp_72 (by decide) ?_
      intro v34 h35
      refine q_bipush dX12_readAlp_73 (by decide +kernel) ?_
      intro v36 h37
      refine q_callVi hE (M' := mX12_readWhole) (as := [_, _]) dX12_readAlp_75 lk12_161 inX12_readWhole seX12_readWhole myX12_readWhole (by decide) ⟨by decide, by decide⟩ rfl (kR15 hS23.1 ta0) (Nat.le_of_ble_eq_true rfl) rfl rfl (by decide) (by decide) (k_X12_readWhole hS23.1 ta0) ?_
      rintro v42 cn' K' N' I38 R39 L40 ⟨rfl, rfl, rfl, rfl, g41, p43, w44, -⟩
      have hS45 := hS23.tr g41 (by decide +kernel) (by decide +kernel)
      have b46 : 0 ≤ v42.toInt ∧ v42.toInt ≤ 99 := by exact om_caf9e5f4 h35 h37 p43
      clear p43
      have ov47 := w44.over (by rw [c26]; exact om_394b70a2 ov24.1)
      obtain ⟨v48, c49⟩ : ∃ v, I38 a0 9 = v := ⟨_, rfl⟩
      have b50 := iv15_9 hS45.1 ta0 c49
      obtain ⟨v51, c52⟩ : ∃ v, I38 a0 13 = v := ⟨_, rfl⟩
      obtain ⟨v53, c54⟩ : ∃ v, I38 a0 14 = v := ⟨_, rfl⟩
      (try rw [c49] at ov47)
      (try rw [c52] at ov47)
      (try rw [c54] at ov47)
      (try rw [c26] at ov47)
      (try rw [c29] at ov47)
      (try rw [c31] at ov47)
      refine q_iast dX12_readAlp_78 (kR53 hS45.1 ta32) (ti_in (nR53 hS45.1 ta32) (by exact om_7b0bb40e hx3.2 hx3.1) (by exact om_cb2be459 hx3.2 hx3.1)) hS45 ta32 (iokF rfl) rfl (by rfl) ?_
      intro I55 hS56 e58 f57
      have c59 : I55 a0 9 = v48 := (f57 _ _ (fun q => by have z := ta0; rw [q.1, ta32] at z; exact absurd z (by decide))).trans c49
      have c60 : I55 a0 13 = v51 := (f57 _ _ (fun q => by have z := ta0; rw [q.1, ta32] at z; exact absurd z (by decide))).trans c52
      have c61 : I55 a0 14 = v53 := (f57 _ _ (fun q => by have z := ta0; rw [q.1, ta32] at z; exact absurd z (by decide))).trans c54
      refine q_iincE dX12_readAlp_79 hl3 (by decide) (by decide) (by intro j1 j2; exact om_02a073b0 hx3.2 hx3.1) ?_
      intro v62 h63
      refine tr_goto 48 dX12_readAlp_82 (by decide) ?_
      refine sf_oA48_4 hE hZ hS56.1 (gB) ta0 (by exact om_a4f44aef hx3.2 hx3.1 h63) (by (try rw [c59]); first | done | with_reducible assumption | exact om_394b70a2 ov47.1) ⟨_, d2⟩ hl0 hl1 hl2 rfl ?_
      rintro I64 R65 L66 ⟨g67, p68, p69, p70, -⟩
      obtain rfl : R0 = R65 := funext fun a => funext fun j => (g67.2.2 a j (wm_no rfl)).symm
      have hS71 := hS56.tr g67 (by decide +kernel) (by decide +kernel)
      obtain ⟨v72, c73⟩ : ∃ v, I64 a0 9 = v := ⟨_, rfl⟩
      have b74 := iv15_9 hS71.1 ta0 c73
      rw [c73] at p68
      obtain ⟨v75, c76⟩ : ∃ v, I64 a0 13 = v := ⟨_, rfl⟩
      rw [c76] at p69
      rw [c60] at p69
      obtain ⟨v77, c78⟩ : ∃ v, I64 a0 14 = v := ⟨_, rfl⟩
      rw [c78] at p70
      rw [c61] at p70
      exact hq _ _ _ ⟨hS71, (by (try rw [c73]); first | done | with_reducible assumption | omega), (by (try rw [c76]); (try rw [c8]); first | done | with_reducible assumption | exact om_1c22ab7e ov24.2.1 ov47.2.1 p69), (by (try rw [c78]); (try rw [c10]); first | done | with_reducible assumption | exact om_1c22ab7e ov24.2.2 ov47.2.2 p70), trivial⟩
def wif_oA48_2 : List Nat := [968, 969, 970, 971, 972, 973, 974, 3455]
def wrf_oA48_2 : List Nat := []
def wlf_oA48_2 : List Nat := []
set_option maxHeartbeats 4000000 in
theorem sf_oA48_2 {X : cz_X} (hE : cz_env X) {T : Nat → Nat} {cn : Nat} {K N : Nat → Nat} {I0 : cz_I} {R0 : cz_R} {L0 : cz_L} {Q : cz_Q} (hZ : cz_Z X mX12_readAlp Q) (hW0 : Wf T cn K N I0 R0 0) (gB : cz_B) {a0 : Nat} (ta0 : T a0 = 15) {x1 : Int32} {x2 : Int32} {x3 : Int32} (hx3 : 2 ≤ x3.toInt ∧ x3.toInt ≤ 2) (pre0 : (I0 a0 9).toInt = 5) (nn4 : ∃ b, R0 a0 4 = some b) {ls : Nat → Option Value} (hl0 : ls 0 = some (.ref a0)) (hl1 : ls 1 = some (.int x1)) (hl2 : ls 2 = some (.int x2)) (hl3 : ls 3 = some (.int x3)) (hq : ∀ (I' : cz_I) (R' : cz_R) (L' : cz_L), St T cn K N 0 wif_oA48_2 wrf_oA48_2 I0 R0 I' R' ∧ ((I' a0 9).toInt = 5) ∧ ((I' a0 13).toInt = (I0 a0 13).toInt) ∧ ((I' a0 14).toInt = (I0 a0 14).toInt) ∧ True → Q none cn K N I' R' L') : Tr X mX12_readAlp 48 ls [] cn K N I0 R0 L0 0 0 := by
  have hS0 : St T cn K N 0 wif_oA48_2 wrf_oA48_2 I0 R0 I0 R0 := St.rf0 hW0
  have hL0 : LgS T wlf_oA48_2 L0 L0 := LgS.rf0
  obtain ⟨a1, d2⟩ := nn4
  have ta1 : T a1 = 14 := hW0.rsN ta0 rfl d2
  obtain ⟨v3, c4⟩ : ∃ v, I0 a0 9 = v := ⟨_, rfl⟩
  have b5 := iv15_9 hS0.1 ta0 c4
  have p6 := pre0
  rw [c4] at p6
  obtain ⟨v7, c8⟩ : ∃ v, I0 a0 13 = v := ⟨_, rfl⟩
  obtain ⟨v9, c10⟩ : ∃ v, I0 a0 14 = v := ⟨_, rfl⟩
  refine tr_iload_n dX12_readAlp_48 hl3 ?_
  refine q_iconst dX12_readAlp_49 (by decide) ?_
  intro v11 h12
  refine q_icmp_ge 85 dX12_readAlp_50 (by decide) (fun h13 => ?_) (fun h13 => ?_)
  · skip
    exfalso; exact om_2979c7ba hx3.2 hx3.1 h12 h13
  · skip
    refine tr_iload_n dX12_readAlp_53 hl3 ?_
    refine q_if_le 63 dX12_readAlp_54 (by decide) (fun h14 => ?_) (fun h14 => ?_)
    · skip
      exfalso; exact om_5c780de2 hx3.2 hx3.1 h14
    · skip
      refine tr_aload_n dX12_readAlp_57 hl0 ?_
      refine q_bipush dX12_readAlp_58 (by decide +kernel) ?_
      intro v15 h16
      refine q_callVv hE (M' := mX12_needsSign) (as := [_]) dX12_readAlp_60 lk12_257 inX12_needsSign seX12_needsSign myX12_needsSign (by decide) ⟨by decide, by decide⟩ rfl (kR15 hS0.1 ta0) (Nat.le_of_ble_eq_true rfl) rfl rfl (by decide) (by decide) (k_X12_needsSign hS0.1 ta0) ?_
      rintro cn' K' N' I17 R18 L19 ⟨rfl, rfl, rfl, rfl, g20, w22, -⟩
      have hS23 := hS0.tr g20 (by decide +kernel) (by decide +kernel)
      have ov24 := w22.over (by rw [c4]; exact om_394b70a2 p6)
      obtain ⟨v25, c26⟩ : ∃ v, I17 a0 9 = v := ⟨_, rfl⟩
      have b27 := iv15_9 hS23.1 ta0 c26
      obtain ⟨v28, c29⟩ : ∃ v, I17 a0 13 = v := ⟨_, rfl⟩
      obtain ⟨v30, c31⟩ : ∃ v, I17 a0 14 = v := ⟨_, rfl⟩
      (try rw [c26] at ov24)
      (try rw [c29] at ov24)
      (try rw [c31] at ov24)
      (try rw [c4] at ov24)
      (try rw [c8] at ov24)
      (try rw [c10] at ov24)
      refine tr_aload_n dX12_readAlp_63 hl0 ?_
      refine tr_getR dX12_readAlp_64 fl12_188 (kR15 hS23.1 ta0) d2 ?_
      obtain ⟨a32, d33, ta32⟩ := rf14_10 hW0 ta1
      refine tr_getR dX12_readAlp_67 fl12_260 (kR14 hS23.1 ta1) d33 ?_
      refine tr_iload_n dX12_readAlp_70 hl3 ?_
      refine tr_aload_n dX12_readAlp_71 hl0 ?_
      refine q_iconst dX12_readAlp_72 (by decide) ?_
      intro v34 h35
      refine q_bipush dX12_readAlp_73 (by decide +kernel) ?_
      intro v36 h37
      refine q_callVi hE (M' := mX12_readWhole) (as := [_, _]) dX12_readAlp_75 lk12_161 inX12_readWhole seX12_readWhole myX12_readWhole (by decide) ⟨by decide, by decide⟩ rfl (kR15 hS23.1 ta0) (Nat.le_of_ble_eq_true rfl) rfl rfl (by decide) (by decide) (k_X12_readWhole hS23.1 ta0) ?_
      rintro v42 cn' K' N' I38 R39 L40 ⟨rfl, rfl, rfl, rfl, g41, p43, w44, -⟩
      have hS45 := hS23.tr g41 (by decide +kernel) (by decide +kernel)
      have b46 : 0 ≤ v42.toInt ∧ v42.toInt ≤ 99 := by exact om_caf9e5f4 h35 h37 p43
      clear p43
      have ov47 := w44.over (by rw [c26]; exact om_394b70a2 ov24.1)
      obtain ⟨v48, c49⟩ : ∃ v, I38 a0 9 = v := ⟨_, rfl⟩
      have b50 := iv15_9 hS45.1 ta0 c49
      obtain ⟨v51, c52⟩ : ∃ v, I38 a0 13 = v := ⟨_, rfl⟩
      obtain ⟨v53, c54⟩ : ∃ v, I38 a0 14 = v := ⟨_, rfl⟩
      (try rw [c49] at ov47)
      (try rw [c52] at ov47)
      (try rw [c54] at ov47)
      (try rw [c26] at ov47)
      (try rw [c29] at ov47)
      (try rw [c31] at ov47)
      refine q_iast dX12_readAlp_78 (kR53 hS45.1 ta32) (ti_in (nR53 hS45.1 ta32) (by exact om_0757030c hx3.2 hx3.1) (by exact om_47c9576f hx3.2 hx3.1)) hS45 ta32 (iokF rfl) rfl (by rfl) ?_
      intro I55 hS56 e58 f57
      have c59 : I55 a0 9 = v48 := (f57 _ _ (fun q => by have z := ta0; rw [q.1, ta32] at z; exact absurd z (by decide))).trans c49
      have c60 : I55 a0 13 = v51 := (f57 _ _ (fun q => by have z := ta0; rw [q.1, ta32] at z; exact absurd z (by decide))).trans c52
      have c61 : I55 a0 14 = v53 := (f57 _ _ (fun q => by have z := ta0; rw [q.1, ta32] at z; exact absurd z (by decide))).trans c54
      refine q_iincE dX12_readAlp_79 hl3 (by decide) (by decide) (by intro j1 j2; exact om_0c0e1335 hx3.2 hx3.1) ?_
      intro v62 h63
      refine tr_goto 48 dX12_readAlp_82 (by decide) ?_
      refine sf_oA48_3 hE hZ hS56.1 (gB) ta0 (by exact om_c7964dd5 hx3.2 hx3.1 h63) (by (try rw [c59]); first | done | with_reducible assumption | exact om_394b70a2 ov47.1) ⟨_, d2⟩ hl0 hl1 hl2 rfl ?_
      rintro I64 R65 L66 ⟨g67, p68, p69, p70, -⟩
      obtain rfl : R0 = R65 := funext fun a => funext fun j => (g67.2.2 a j (wm_no rfl)).symm
      have hS71 := hS56.tr g67 (by decide +kernel) (by decide +kernel)
      obtain ⟨v72, c73⟩ : ∃ v, I64 a0 9 = v := ⟨_, rfl⟩
      have b74 := iv15_9 hS71.1 ta0 c73
      rw [c73] at p68
      obtain ⟨v75, c76⟩ : ∃ v, I64 a0 13 = v := ⟨_, rfl⟩
      rw [c76] at p69
      rw [c60] at p69
      obtain ⟨v77, c78⟩ : ∃ v, I64 a0 14 = v := ⟨_, rfl⟩
      rw [c78] at p70
      rw [c61] at p70
      exact hq _ _ _ ⟨hS71, (by (try rw [c73]); first | done | with_reducible assumption | omega), (by (try rw [c76]); (try rw [c8]); first | done | with_reducible assumption | exact om_1c22ab7e ov24.2.1 ov47.2.1 p69), (by (try rw [c78]); (try rw [c10]); first | done | with_reducible assumption | exact om_1c22ab7e ov24.2.2 ov47.2.2 p70), trivial⟩
def wif_oA48_1 : List Nat := [968, 969, 970, 971, 972, 973, 974, 3455]
def wrf_oA48_1 : List Nat := []
def wlf_oA48_1 : List Nat := []
set_option maxHeartbeats 4000000 in
theorem sf_oA48_1 {X : cz_X} (hE : cz_env X) {T : Nat → Nat} {cn : Nat} {K N : Nat → Nat} {I0 : cz_I} {R0 : cz_R} {L0 : cz_L} {Q : cz_Q} (hZ : cz_Z X mX12_readAlp Q) (hW0 : Wf T cn K N I0 R0 0) (gB : cz_B) {a0 : Nat} (ta0 : T a0 = 15) {x1 : Int32} {x2 : Int32} {x3 : Int32} (hx3 : 1 ≤ x3.toInt ∧ x3.toInt ≤ 1) (pre0 : (I0 a0 9).toInt = 5) (nn4 : ∃ b, R0 a0 4 = some b) {ls : Nat → Option Value} (hl0 : ls 0 = some (.ref a0)) (hl1 : ls 1 = some (.int x1)) (hl2 : ls 2 = some (.int x2)) (hl3 : ls 3 = some (.int x3)) (hq : ∀ (I' : cz_I) (R' : cz_R) (L' : cz_L), St T cn K N 0 wif_oA48_1 wrf_oA48_1 I0 R0 I' R' ∧ ((I' a0 9).toInt = 5) ∧ ((I' a0 13).toInt = (I0 a0 13).toInt) ∧ ((I' a0 14).toInt = (I0 a0 14).toInt) ∧ True → Q none cn K N I' R' L') : Tr X mX12_readAlp 48 ls [] cn K N I0 R0 L0 0 0 := by
  have hS0 : St T cn K N 0 wif_oA48_1 wrf_oA48_1 I0 R0 I0 R0 := St.rf0 hW0
  have hL0 : LgS T wlf_oA48_1 L0 L0 := LgS.rf0
  obtain ⟨a1, d2⟩ := nn4
  have ta1 : T a1 = 14 := hW0.rsN ta0 rfl d2
  obtain ⟨v3, c4⟩ : ∃ v, I0 a0 9 = v := ⟨_, rfl⟩
  have b5 := iv15_9 hS0.1 ta0 c4
  have p6 := pre0
  rw [c4] at p6
  obtain ⟨v7, c8⟩ : ∃ v, I0 a0 13 = v := ⟨_, rfl⟩
  obtain ⟨v9, c10⟩ : ∃ v, I0 a0 14 = v := ⟨_, rfl⟩
  refine tr_iload_n dX12_readAlp_48 hl3 ?_
  refine q_iconst dX12_readAlp_49 (by decide) ?_
  intro v11 h12
  refine q_icmp_ge 85 dX12_readAlp_50 (by decide) (fun h13 => ?_) (fun h13 => ?_)
  · skip
    exfalso; exact om_34eca774 hx3.2 hx3.1 h12 h13
  · skip
    refine tr_iload_n dX12_readAlp_53 hl3 ?_
    refine q_if_le 63 dX12_readAlp_54 (by decide) (fun h14 => ?_) (fun h14 => ?_)
    · skip
      exfalso; exact om_461cd9b1 hx3.2 hx3.1 h14
    · skip
      refine tr_aload_n dX12_readAlp_57 hl0 ?_
      refine q_bipush dX12_readAlp_58 (by decide +kernel) ?_
      intro v15 h16
      refine q_callVv hE (M' := mX12_needsSign) (as := [_]) dX12_readAlp_60 lk12_257 inX12_needsSign seX12_needsSign myX12_needsSign (by decide) ⟨by decide, by decide⟩ rfl (kR15 hS0.1 ta0) (Nat.le_of_ble_eq_true rfl) rfl rfl (by decide) (by decide) (k_X12_needsSign hS0.1 ta0) ?_
      rintro cn' K' N' I17 R18 L19 ⟨rfl, rfl, rfl, rfl, g20, w22, -⟩
      have hS23 := hS0.tr g20 (by decide +kernel) (by decide +kernel)
      have ov24 := w22.over (by rw [c4]; exact om_394b70a2 p6)
      obtain ⟨v25, c26⟩ : ∃ v, I17 a0 9 = v := ⟨_, rfl⟩
      have b27 := iv15_9 hS23.1 ta0 c26
      obtain ⟨v28, c29⟩ : ∃ v, I17 a0 13 = v := ⟨_, rfl⟩
      obtain ⟨v30, c31⟩ : ∃ v, I17 a0 14 = v := ⟨_, rfl⟩
      (try rw [c26] at ov24)
      (try rw [c29] at ov24)
      (try rw [c31] at ov24)
      (try rw [c4] at ov24)
      (try rw [c8] at ov24)
      (try rw [c10] at ov24)
      refine tr_aload_n dX12_readAlp_63 hl0 ?_
      refine tr_getR dX12_readAlp_64 fl12_188 (kR15 hS23.1 ta0) d2 ?_
      obtain ⟨a32, d33, ta32⟩ := rf14_10 hW0 ta1
      refine tr_getR dX12_readAlp_67 fl12_260 (kR14 hS23.1 ta1) d33 ?_
      refine tr_iload_n dX12_readAlp_70 hl3 ?_
      refine tr_aload_n dX12_readAlp_71 hl0 ?_
      refine q_iconst dX12_readAlp_72 (by decide) ?_
      intro v34 h35
      refine q_bipush dX12_readAlp_73 (by decide +kernel) ?_
      intro v36 h37
      refine q_callVi hE (M' := mX12_readWhole) (as := [_, _]) dX12_readAlp_75 lk12_161 inX12_readWhole seX12_readWhole myX12_readWhole (by decide) ⟨by decide, by decide⟩ rfl (kR15 hS23.1 ta0) (Nat.le_of_ble_eq_true rfl) rfl rfl (by decide) (by decide) (k_X12_readWhole hS23.1 ta0) ?_
      rintro v42 cn' K' N' I38 R39 L40 ⟨rfl, rfl, rfl, rfl, g41, p43, w44, -⟩
      have hS45 := hS23.tr g41 (by decide +kernel) (by decide +kernel)
      have b46 : 0 ≤ v42.toInt ∧ v42.toInt ≤ 99 := by exact om_caf9e5f4 h35 h37 p43
      clear p43
      have ov47 := w44.over (by rw [c26]; exact om_394b70a2 ov24.1)
      obtain ⟨v48, c49⟩ : ∃ v, I38 a0 9 = v := ⟨_, rfl⟩
      have b50 := iv15_9 hS45.1 ta0 c49
      obtain ⟨v51, c52⟩ : ∃ v, I38 a0 13 = v := ⟨_, rfl⟩
      obtain ⟨v53, c54⟩ : ∃ v, I38 a0 14 = v := ⟨_, rfl⟩
      (try rw [c49] at ov47)
      (try rw [c52] at ov47)
      (try rw [c54] at ov47)
      (try rw [c26] at ov47)
      (try rw [c29] at ov47)
      (try rw [c31] at ov47)
      refine q_iast dX12_readAlp_78 (kR53 hS45.1 ta32) (ti_in (nR53 hS45.1 ta32) (by exact om_f1f39d84 hx3.2 hx3.1) (by exact om_8101a039 hx3.2 hx3.1)) hS45 ta32 (iokF rfl) rfl (by rfl) ?_
      intro I55 hS56 e58 f57
      have c59 : I55 a0 9 = v48 := (f57 _ _ (fun q => by have z := ta0; rw [q.1, ta32] at z; exact absurd z (by decide))).trans c49
      have c60 : I55 a0 13 = v51 := (f57 _ _ (fun q => by have z := ta0; rw [q.1, ta32] at z; exact absurd z (by decide))).trans c52
      have c61 : I55 a0 14 = v53 := (f57 _ _ (fun q => by have z := ta0; rw [q.1, ta32] at z; exact absurd z (by decide))).trans c54
      refine q_iincE dX12_readAlp_79 hl3 (by decide) (by decide) (by intro j1 j2; exact om_d90060b7 hx3.2 hx3.1) ?_
      intro v62 h63
      refine tr_goto 48 dX12_readAlp_82 (by decide) ?_
      refine sf_oA48_2 hE hZ hS56.1 (gB) ta0 (by exact om_ba72c3ab hx3.2 hx3.1 h63) (by (try rw [c59]); first | done | with_reducible assumption | exact om_394b70a2 ov47.1) ⟨_, d2⟩ hl0 hl1 hl2 rfl ?_
      rintro I64 R65 L66 ⟨g67, p68, p69, p70, -⟩
      obtain rfl : R0 = R65 := funext fun a => funext fun j => (g67.2.2 a j (wm_no rfl)).symm
      have hS71 := hS56.tr g67 (by decide +kernel) (by decide +kernel)
      obtain ⟨v72, c73⟩ : ∃ v, I64 a0 9 = v := ⟨_, rfl⟩
      have b74 := iv15_9 hS71.1 ta0 c73
      rw [c73] at p68
      obtain ⟨v75, c76⟩ : ∃ v, I64 a0 13 = v := ⟨_, rfl⟩
      rw [c76] at p69
      rw [c60] at p69
      obtain ⟨v77, c78⟩ : ∃ v, I64 a0 14 = v := ⟨_, rfl⟩
      rw [c78] at p70
      rw [c61] at p70
      exact hq _ _ _ ⟨hS71, (by (try rw [c73]); first | done | with_reducible assumption | omega), (by (try rw [c76]); (try rw [c8]); first | done | with_reducible assumption | exact om_1c22ab7e ov24.2.1 ov47.2.1 p69), (by (try rw [c78]); (try rw [c10]); first | done | with_reducible assumption | exact om_1c22ab7e ov24.2.2 ov47.2.2 p70), trivial⟩
def wif_oA48_0 : List Nat := [968, 969, 970, 971, 972, 973, 974, 3455]
def wrf_oA48_0 : List Nat := []
def wlf_oA48_0 : List Nat := []
set_option maxHeartbeats 4000000 in
theorem sf_oA48_0 {X : cz_X} (hE : cz_env X) {T : Nat → Nat} {cn : Nat} {K N : Nat → Nat} {I0 : cz_I} {R0 : cz_R} {L0 : cz_L} {Q : cz_Q} (hZ : cz_Z X mX12_readAlp Q) (hW0 : Wf T cn K N I0 R0 0) (gB : cz_B) {a0 : Nat} (ta0 : T a0 = 15) {x1 : Int32} {x2 : Int32} {x3 : Int32} (hx3 : 0 ≤ x3.toInt ∧ x3.toInt ≤ 0) (pre0 : (I0 a0 9).toInt = 5) (nn4 : ∃ b, R0 a0 4 = some b) {ls : Nat → Option Value} (hl0 : ls 0 = some (.ref a0)) (hl1 : ls 1 = some (.int x1)) (hl2 : ls 2 = some (.int x2)) (hl3 : ls 3 = some (.int x3)) (hq : ∀ (I' : cz_I) (R' : cz_R) (L' : cz_L), St T cn K N 0 wif_oA48_0 wrf_oA48_0 I0 R0 I' R' ∧ ((I' a0 9).toInt = 5) ∧ ((I' a0 13).toInt = (I0 a0 13).toInt) ∧ ((I' a0 14).toInt = (I0 a0 14).toInt) ∧ True → Q none cn K N I' R' L') : Tr X mX12_readAlp 48 ls [] cn K N I0 R0 L0 0 0 := by
  have hS0 : St T cn K N 0 wif_oA48_0 wrf_oA48_0 I0 R0 I0 R0 := St.rf0 hW0
  have hL0 : LgS T wlf_oA48_0 L0 L0 := LgS.rf0
  obtain ⟨a1, d2⟩ := nn4
  have ta1 : T a1 = 14 := hW0.rsN ta0 rfl d2
  obtain ⟨v3, c4⟩ : ∃ v, I0 a0 9 = v := ⟨_, rfl⟩
  have b5 := iv15_9 hS0.1 ta0 c4
  have p6 := pre0
  rw [c4] at p6
  obtain ⟨v7, c8⟩ : ∃ v, I0 a0 13 = v := ⟨_, rfl⟩
  obtain ⟨v9, c10⟩ : ∃ v, I0 a0 14 = v := ⟨_, rfl⟩
  refine tr_iload_n dX12_readAlp_48 hl3 ?_
  refine q_iconst dX12_readAlp_49 (by decide) ?_
  intro v11 h12
  refine q_icmp_ge 85 dX12_readAlp_50 (by decide) (fun h13 => ?_) (fun h13 => ?_)
  · skip
    exfalso; exact om_6cc7e40b hx3.2 hx3.1 h12 h13
  · skip
    refine tr_iload_n dX12_readAlp_53 hl3 ?_
    refine q_if_le 63 dX12_readAlp_54 (by decide) (fun h14 => ?_) (fun h14 => ?_)
    · skip
      refine tr_aload_n dX12_readAlp_63 hl0 ?_
      refine tr_getR dX12_readAlp_64 fl12_188 (kR15 hS0.1 ta0) d2 ?_
      obtain ⟨a15, d16, ta15⟩ := rf14_10 hW0 ta1
      refine tr_getR dX12_readAlp_67 fl12_260 (kR14 hS0.1 ta1) d16 ?_
      refine tr_iload_n dX12_readAlp_70 hl3 ?_
      refine tr_aload_n dX12_readAlp_71 hl0 ?_
      refine q_iconst dX12_readAlp_72 (by decide) ?_
      intro v17 h18
      refine q_bipush dX12_readAlp_73 (by decide +kernel) ?_
      intro v19 h20
      refine q_callVi hE (M' := mX12_readWhole) (as := [_, _]) dX12_readAlp_75 lk12_161 inX12_readWhole seX12_readWhole myX12_readWhole (by decide) ⟨by decide, by decide⟩ rfl (kR15 hS0.1 ta0) (Nat.le_of_ble_eq_true rfl) rfl rfl (by decide) (by decide) (k_X12_readWhole hS0.1 ta0) ?_
      rintro v25 cn' K' N' I21 R22 L23 ⟨rfl, rfl, rfl, rfl, g24, p26, w27, -⟩
      have hS28 := hS0.tr g24 (by decide +kernel) (by decide +kernel)
      have b29 : 0 ≤ v25.toInt ∧ v25.toInt ≤ 99 := by exact om_caf9e5f4 h18 h20 p26
      clear p26
      have ov30 := w27.over (by rw [c4]; exact om_394b70a2 p6)
      obtain ⟨v31, c32⟩ : ∃ v, I21 a0 9 = v := ⟨_, rfl⟩
      have b33 := iv15_9 hS28.1 ta0 c32
      obtain ⟨v34, c35⟩ : ∃ v, I21 a0 13 = v := ⟨_, rfl⟩
      obtain ⟨v36, c37⟩ : ∃ v, I21 a0 14 = v := ⟨_, rfl⟩
      (try rw [c32] at ov30)
      (try rw [c35] at ov30)
      (try rw [c37] at ov30)
      (try rw [c4] at ov30)
      (try rw [c8] at ov30)
      (try rw [c10] at ov30)
      refine q_iast dX12_readAlp_78 (kR53 hS28.1 ta15) (ti_in (nR53 hS28.1 ta15) (by exact om_9b0b221f hx3.2 hx3.1) (by exact om_ca47c536 hx3.2 hx3.1)) hS28 ta15 (iokF rfl) rfl (by rfl) ?_
      intro I38 hS39 e41 f40
      have c42 : I38 a0 9 = v31 := (f40 _ _ (fun q => by have z := ta0; rw [q.1, ta15] at z; exact absurd z (by decide))).trans c32
      have c43 : I38 a0 13 = v34 := (f40 _ _ (fun q => by have z := ta0; rw [q.1, ta15] at z; exact absurd z (by decide))).trans c35
      have c44 : I38 a0 14 = v36 := (f40 _ _ (fun q => by have z := ta0; rw [q.1, ta15] at z; exact absurd z (by decide))).trans c37
      refine q_iincE dX12_readAlp_79 hl3 (by decide) (by decide) (by intro j1 j2; exact om_e3e1eb36 hx3.2 hx3.1) ?_
      intro v45 h46
      refine tr_goto 48 dX12_readAlp_82 (by decide) ?_
      refine sf_oA48_1 hE hZ hS39.1 (gB) ta0 (by exact om_30550a9e hx3.2 hx3.1 h46) (by (try rw [c42]); first | done | with_reducible assumption | exact om_394b70a2 ov30.1) ⟨_, d2⟩ hl0 hl1 hl2 rfl ?_
      rintro I47 R48 L49 ⟨g50, p51, p52, p53, -⟩
      obtain rfl : R0 = R48 := funext fun a => funext fun j => (g50.2.2 a j (wm_no rfl)).symm
      have hS54 := hS39.tr g50 (by decide +kernel) (by decide +kernel)
      obtain ⟨v55, c56⟩ : ∃ v, I47 a0 9 = v := ⟨_, rfl⟩
      have b57 := iv15_9 hS54.1 ta0 c56
      rw [c56] at p51
      obtain ⟨v58, c59⟩ : ∃ v, I47 a0 13 = v := ⟨_, rfl⟩
      rw [c59] at p52
      rw [c43] at p52
      obtain ⟨v60, c61⟩ : ∃ v, I47 a0 14 = v := ⟨_, rfl⟩
      rw [c61] at p53
      rw [c44] at p53
      exact hq _ _ _ ⟨hS54, (by (try rw [c56]); first | done | with_reducible assumption | omega), (by (try rw [c59]); (try rw [c8]); first | done | with_reducible assumption | exact om_9fa72578 ov30.2.1 p52), (by (try rw [c61]); (try rw [c10]); first | done | with_reducible assumption | exact om_9fa72578 ov30.2.2 p53), trivial⟩
    · skip
      exfalso; exact om_fd047fc8 hx3.2 hx3.1 h14
def wif_oA40 : List Nat := [968, 969, 970, 971, 972, 973, 974, 3455]
def wrf_oA40 : List Nat := []
def wlf_oA40 : List Nat := []
set_option maxHeartbeats 4000000 in
theorem sf_oA40 {X : cz_X} (hE : cz_env X) {T : Nat → Nat} {cn : Nat} {K N : Nat → Nat} {I0 : cz_I} {R0 : cz_R} {L0 : cz_L} {Q : cz_Q} (hZ : cz_Z X mX12_readAlp Q) (hW0 : Wf T cn K N I0 R0 0) (gB : cz_B) {a0 : Nat} (ta0 : T a0 = 15) {x1 : Int32} {x2 : Int32} (pre0 : (I0 a0 9).toInt = 5) (nn4 : ∃ b, R0 a0 4 = some b) {ls : Nat → Option Value} (hl0 : ls 0 = some (.ref a0)) (hl1 : ls 1 = some (.int x1)) (hl2 : ls 2 = some (.int x2)) (hq : ∀ (I' : cz_I) (R' : cz_R) (L' : cz_L), St T cn K N 0 wif_oA40 wrf_oA40 I0 R0 I' R' ∧ ((I' a0 9).toInt = 5) ∧ ((I' a0 13).toInt = (I0 a0 13).toInt) ∧ ((I' a0 14).toInt = (I0 a0 14).toInt) ∧ True → Q none cn K N I' R' L') : Tr X mX12_readAlp 40 ls [] cn K N I0 R0 L0 0 0 := by
  have hS0 : St T cn K N 0 wif_oA40 wrf_oA40 I0 R0 I0 R0 := St.rf0 hW0
  have hL0 : LgS T wlf_oA40 L0 L0 := LgS.rf0
  obtain ⟨a1, d2⟩ := nn4
  have ta1 : T a1 = 14 := hW0.rsN ta0 rfl d2
  obtain ⟨v3, c4⟩ : ∃ v, I0 a0 9 = v := ⟨_, rfl⟩
  have b5 := iv15_9 hS0.1 ta0 c4
  have p6 := pre0
  rw [c4] at p6
  obtain ⟨v7, c8⟩ : ∃ v, I0 a0 13 = v := ⟨_, rfl⟩
  obtain ⟨v9, c10⟩ : ∃ v, I0 a0 14 = v := ⟨_, rfl⟩
  refine tr_aload_n dX12_readAlp_40 hl0 ?_
  refine tr_ldcS dX12_readAlp_41 ld12_255 ?_
  refine q_callVv hE (M' := mX12_needs) (as := [_]) dX12_readAlp_43 lk12_157 inX12_needs seX12_needs myX12_needs (by decide) ⟨by decide, by decide⟩ rfl (kR15 hS0.1 ta0) (Nat.le_of_ble_eq_true rfl) rfl rfl (by decide) (by decide) (k_X12_needs hS0.1 ta0 (by decide)) ?_
  rintro cn' K' N' I11 R12 L13 ⟨rfl, rfl, rfl, rfl, g14, w16, -⟩
  have hS17 := hS0.tr g14 (by decide +kernel) (by decide +kernel)
  have ov18 := w16.over (by rw [c4]; exact om_394b70a2 p6)
  obtain ⟨v19, c20⟩ : ∃ v, I11 a0 9 = v := ⟨_, rfl⟩
  have b21 := iv15_9 hS17.1 ta0 c20
  obtain ⟨v22, c23⟩ : ∃ v, I11 a0 13 = v := ⟨_, rfl⟩
  obtain ⟨v24, c25⟩ : ∃ v, I11 a0 14 = v := ⟨_, rfl⟩
  (try rw [c20] at ov18)
  (try rw [c23] at ov18)
  (try rw [c25] at ov18)
  (try rw [c4] at ov18)
  (try rw [c8] at ov18)
  (try rw [c10] at ov18)
  refine q_iconst dX12_readAlp_46 (by decide) ?_
  intro v26 h27
  refine tr_istore_n dX12_readAlp_47 (by decide) (by decide) ?_
  refine sf_oA48_0 hE hZ hS17.1 (gB) ta0 (by exact om_615c7989 h27) (by (try rw [c20]); first | done | with_reducible assumption | exact om_394b70a2 ov18.1) ⟨_, d2⟩ hl0 hl1 hl2 rfl ?_
  rintro I28 R29 L30 ⟨g31, p32, p33, p34, -⟩
  obtain rfl : R0 = R29 := funext fun a => funext fun j => (g31.2.2 a j (wm_no rfl)).symm
  have hS35 := hS17.tr g31 (by decide +kernel) (by decide +kernel)
  obtain ⟨v36, c37⟩ : ∃ v, I28 a0 9 = v := ⟨_, rfl⟩
  have b38 := iv15_9 hS35.1 ta0 c37
  rw [c37] at p32
  obtain ⟨v39, c40⟩ : ∃ v, I28 a0 13 = v := ⟨_, rfl⟩
  rw [c40] at p33
  rw [c23] at p33
  obtain ⟨v41, c42⟩ : ∃ v, I28 a0 14 = v := ⟨_, rfl⟩
  rw [c42] at p34
  rw [c25] at p34
  exact hq _ _ _ ⟨hS35, (by (try rw [c37]); first | done | with_reducible assumption | omega), (by (try rw [c40]); (try rw [c8]); first | done | with_reducible assumption | exact om_9fa72578 ov18.2.1 p33), (by (try rw [c42]); (try rw [c10]); first | done | with_reducible assumption | exact om_9fa72578 ov18.2.2 p34), trivial⟩
def wif_oA31 : List Nat := [968, 969, 970, 971, 972, 973, 974, 3455]
def wrf_oA31 : List Nat := []
def wlf_oA31 : List Nat := []
set_option maxHeartbeats 4000000 in
theorem sf_oA31 {X : cz_X} (hE : cz_env X) {T : Nat → Nat} {cn : Nat} {K N : Nat → Nat} {I0 : cz_I} {R0 : cz_R} {L0 : cz_L} {Q : cz_Q} (hZ : cz_Z X mX12_readAlp Q) (hW0 : Wf T cn K N I0 R0 0) (gB : cz_B) {a0 : Nat} (ta0 : T a0 = 15) {x1 : Int32} (pre0 : (I0 a0 9).toInt = 5) (nn4 : ∃ b, R0 a0 4 = some b) {ls : Nat → Option Value} (hl0 : ls 0 = some (.ref a0)) (hl1 : ls 1 = some (.int x1)) (hq : ∀ (I' : cz_I) (R' : cz_R) (L' : cz_L), St T cn K N 0 wif_oA31 wrf_oA31 I0 R0 I' R' ∧ ((I' a0 9).toInt = 5) ∧ ((I' a0 13).toInt = (I0 a0 13).toInt) ∧ ((I' a0 14).toInt = (I0 a0 14).toInt) ∧ True → Q none cn K N I' R' L') : Tr X mX12_readAlp 31 ls [] cn K N I0 R0 L0 0 0 := by
  have hS0 : St T cn K N 0 wif_oA31 wrf_oA31 I0 R0 I0 R0 := St.rf0 hW0
  have hL0 : LgS T wlf_oA31 L0 L0 := LgS.rf0
  obtain ⟨a1, d2⟩ := nn4
  have ta1 : T a1 = 14 := hW0.rsN ta0 rfl d2
  obtain ⟨v3, c4⟩ : ∃ v, I0 a0 9 = v := ⟨_, rfl⟩
  have b5 := iv15_9 hS0.1 ta0 c4
  have p6 := pre0
  rw [c4] at p6
  obtain ⟨v7, c8⟩ : ∃ v, I0 a0 13 = v := ⟨_, rfl⟩
  obtain ⟨v9, c10⟩ : ∃ v, I0 a0 14 = v := ⟨_, rfl⟩
  refine tr_aload_n dX12_readAlp_31 hl0 ?_
  refine tr_ldcS dX12_readAlp_32 ld12_253 ?_
  refine q_iconst dX12_readAlp_34 (by decide) ?_
  intro v11 h12
  refine q_iconst dX12_readAlp_35 (by decide) ?_
  intro v13 h14
  refine q_callVi hE (M' := mX12_readPart) (as := [_, _, _]) dX12_readAlp_36 lk12_249 inX12_readPart seX12_readPart myX12_readPart (by decide) ⟨by decide, by decide⟩ rfl (kR15 hS0.1 ta0) (Nat.le_of_ble_eq_true rfl) rfl rfl (by decide) (by decide) (k_X12_readPart hS0.1 ta0 (by decide)) ?_
  rintro v19 cn' K' N' I15 R16 L17 ⟨rfl, rfl, rfl, rfl, g18, p20, w21, -⟩
  have hS22 := hS0.tr g18 (by decide +kernel) (by decide +kernel)
  have b23 : 1 ≤ v19.toInt ∧ v19.toInt ≤ 4 := by exact om_8c91ba7a h12 h14 p20
  clear p20
  have ov24 := w21.over (by rw [c4]; exact om_394b70a2 p6)
  obtain ⟨v25, c26⟩ : ∃ v, I15 a0 9 = v := ⟨_, rfl⟩
  have b27 := iv15_9 hS22.1 ta0 c26
  obtain ⟨v28, c29⟩ : ∃ v, I15 a0 13 = v := ⟨_, rfl⟩
  obtain ⟨v30, c31⟩ : ∃ v, I15 a0 14 = v := ⟨_, rfl⟩
  (try rw [c26] at ov24)
  (try rw [c29] at ov24)
  (try rw [c31] at ov24)
  (try rw [c4] at ov24)
  (try rw [c8] at ov24)
  (try rw [c10] at ov24)
  refine tr_istore_n dX12_readAlp_39 (by decide) (by decide) ?_
  refine sf_oA40 hE hZ hS22.1 (gB) ta0 (by (try rw [c26]); first | done | with_reducible assumption | exact om_394b70a2 ov24.1) ⟨_, d2⟩ hl0 hl1 rfl ?_
  rintro I32 R33 L34 ⟨g35, p36, p37, p38, -⟩
  obtain rfl : R0 = R33 := funext fun a => funext fun j => (g35.2.2 a j (wm_no rfl)).symm
  have hS39 := hS22.tr g35 (by decide +kernel) (by decide +kernel)
  obtain ⟨v40, c41⟩ : ∃ v, I32 a0 9 = v := ⟨_, rfl⟩
  have b42 := iv15_9 hS39.1 ta0 c41
  rw [c41] at p36
  obtain ⟨v43, c44⟩ : ∃ v, I32 a0 13 = v := ⟨_, rfl⟩
  rw [c44] at p37
  rw [c29] at p37
  obtain ⟨v45, c46⟩ : ∃ v, I32 a0 14 = v := ⟨_, rfl⟩
  rw [c46] at p38
  rw [c31] at p38
  exact hq _ _ _ ⟨hS39, (by (try rw [c41]); first | done | with_reducible assumption | omega), (by (try rw [c44]); (try rw [c8]); first | done | with_reducible assumption | exact om_9fa72578 ov24.2.1 p37), (by (try rw [c46]); (try rw [c10]); first | done | with_reducible assumption | exact om_9fa72578 ov24.2.2 p38), trivial⟩
def wif_oA19 : List Nat := [968, 969, 970, 971, 972, 973, 974, 3455]
def wrf_oA19 : List Nat := []
def wlf_oA19 : List Nat := []
set_option maxHeartbeats 4000000 in
theorem sf_oA19 {X : cz_X} (hE : cz_env X) {T : Nat → Nat} {cn : Nat} {K N : Nat → Nat} {I0 : cz_I} {R0 : cz_R} {L0 : cz_L} {Q : cz_Q} (hZ : cz_Z X mX12_readAlp Q) (hW0 : Wf T cn K N I0 R0 0) (gB : cz_B) {a0 : Nat} (ta0 : T a0 = 15) (pre0 : (I0 a0 9).toInt = 5) (nn4 : ∃ b, R0 a0 4 = some b) {ls : Nat → Option Value} (hl0 : ls 0 = some (.ref a0)) (hq : ∀ (I' : cz_I) (R' : cz_R) (L' : cz_L), St T cn K N 0 wif_oA19 wrf_oA19 I0 R0 I' R' ∧ ((I' a0 9).toInt = 5) ∧ ((I' a0 13).toInt = (I0 a0 13).toInt) ∧ ((I' a0 14).toInt = (I0 a0 14).toInt) ∧ True → Q none cn K N I' R' L') : Tr X mX12_readAlp 19 ls [] cn K N I0 R0 L0 0 0 := by
  have hS0 : St T cn K N 0 wif_oA19 wrf_oA19 I0 R0 I0 R0 := St.rf0 hW0
  have hL0 : LgS T wlf_oA19 L0 L0 := LgS.rf0
  obtain ⟨a1, d2⟩ := nn4
  have ta1 : T a1 = 14 := hW0.rsN ta0 rfl d2
  obtain ⟨v3, c4⟩ : ∃ v, I0 a0 9 = v := ⟨_, rfl⟩
  have b5 := iv15_9 hS0.1 ta0 c4
  have p6 := pre0
  rw [c4] at p6
  obtain ⟨v7, c8⟩ : ∃ v, I0 a0 13 = v := ⟨_, rfl⟩
  obtain ⟨v9, c10⟩ : ∃ v, I0 a0 14 = v := ⟨_, rfl⟩
  refine tr_aload_n dX12_readAlp_19 hl0 ?_
  refine tr_ldcS dX12_readAlp_20 ld12_248 ?_
  refine q_bipush dX12_readAlp_22 (by decide +kernel) ?_
  intro v11 h12
  refine q_sipush dX12_readAlp_24 (by decide +kernel) ?_
  intro v13 h14
  refine q_callVi hE (M' := mX12_readPart) (as := [_, _, _]) dX12_readAlp_27 lk12_249 inX12_readPart seX12_readPart myX12_readPart (by decide) ⟨by decide, by decide⟩ rfl (kR15 hS0.1 ta0) (Nat.le_of_ble_eq_true rfl) rfl rfl (by decide) (by decide) (k_X12_readPart hS0.1 ta0 (by decide)) ?_
  rintro v19 cn' K' N' I15 R16 L17 ⟨rfl, rfl, rfl, rfl, g18, p20, w21, -⟩
  have hS22 := hS0.tr g18 (by decide +kernel) (by decide +kernel)
  have b23 : 10 ≤ v19.toInt ∧ v19.toInt ≤ 240 := by exact om_6202203d h12 h14 p20
  clear p20
  have ov24 := w21.over (by rw [c4]; exact om_394b70a2 p6)
  obtain ⟨v25, c26⟩ : ∃ v, I15 a0 9 = v := ⟨_, rfl⟩
  have b27 := iv15_9 hS22.1 ta0 c26
  obtain ⟨v28, c29⟩ : ∃ v, I15 a0 13 = v := ⟨_, rfl⟩
  obtain ⟨v30, c31⟩ : ∃ v, I15 a0 14 = v := ⟨_, rfl⟩
  (try rw [c26] at ov24)
  (try rw [c29] at ov24)
  (try rw [c31] at ov24)
  (try rw [c4] at ov24)
  (try rw [c8] at ov24)
  (try rw [c10] at ov24)
  refine tr_istore_n dX12_readAlp_30 (by decide) (by decide) ?_
  refine sf_oA31 hE hZ hS22.1 (gB) ta0 (by (try rw [c26]); first | done | with_reducible assumption | exact om_394b70a2 ov24.1) ⟨_, d2⟩ hl0 rfl ?_
  rintro I32 R33 L34 ⟨g35, p36, p37, p38, -⟩
  obtain rfl : R0 = R33 := funext fun a => funext fun j => (g35.2.2 a j (wm_no rfl)).symm
  have hS39 := hS22.tr g35 (by decide +kernel) (by decide +kernel)
  obtain ⟨v40, c41⟩ : ∃ v, I32 a0 9 = v := ⟨_, rfl⟩
  have b42 := iv15_9 hS39.1 ta0 c41
  rw [c41] at p36
  obtain ⟨v43, c44⟩ : ∃ v, I32 a0 13 = v := ⟨_, rfl⟩
  rw [c44] at p37
  rw [c29] at p37
  obtain ⟨v45, c46⟩ : ∃ v, I32 a0 14 = v := ⟨_, rfl⟩
  rw [c46] at p38
  rw [c31] at p38
  exact hq _ _ _ ⟨hS39, (by (try rw [c41]); first | done | with_reducible assumption | omega), (by (try rw [c44]); (try rw [c8]); first | done | with_reducible assumption | exact om_9fa72578 ov24.2.1 p37), (by (try rw [c46]); (try rw [c10]); first | done | with_reducible assumption | exact om_9fa72578 ov24.2.2 p38), trivial⟩
def wif_oA15 : List Nat := [968, 969, 970, 971, 972, 973, 974, 3455]
def wrf_oA15 : List Nat := []
def wlf_oA15 : List Nat := []
set_option maxHeartbeats 4000000 in
theorem sf_oA15 {X : cz_X} (hE : cz_env X) {T : Nat → Nat} {cn : Nat} {K N : Nat → Nat} {I0 : cz_I} {R0 : cz_R} {L0 : cz_L} {Q : cz_Q} (hZ : cz_Z X mX12_readAlp Q) (hW0 : Wf T cn K N I0 R0 0) (gB : cz_B) {a0 : Nat} (ta0 : T a0 = 15) (pre0 : (I0 a0 9).toInt = 5) (nn4 : ∃ b, R0 a0 4 = some b) {ls : Nat → Option Value} (hl0 : ls 0 = some (.ref a0)) (hq : ∀ (I' : cz_I) (R' : cz_R) (L' : cz_L), St T cn K N 0 wif_oA15 wrf_oA15 I0 R0 I' R' ∧ ((I' a0 9).toInt = 5) ∧ ((I' a0 13).toInt = (I0 a0 13).toInt) ∧ ((I' a0 14).toInt = (I0 a0 14).toInt) ∧ True → Q none cn K N I' R' L') : Tr X mX12_readAlp 15 ls [] cn K N I0 R0 L0 0 0 := by
  have hS0 : St T cn K N 0 wif_oA15 wrf_oA15 I0 R0 I0 R0 := St.rf0 hW0
  have hL0 : LgS T wlf_oA15 L0 L0 := LgS.rf0
  obtain ⟨a1, d2⟩ := nn4
  have ta1 : T a1 = 14 := hW0.rsN ta0 rfl d2
  obtain ⟨v3, c4⟩ : ∃ v, I0 a0 9 = v := ⟨_, rfl⟩
  have b5 := iv15_9 hS0.1 ta0 c4
  have p6 := pre0
  rw [c4] at p6
  obtain ⟨v7, c8⟩ : ∃ v, I0 a0 13 = v := ⟨_, rfl⟩
  obtain ⟨v9, c10⟩ : ∃ v, I0 a0 14 = v := ⟨_, rfl⟩
  refine tr_aload_n dX12_readAlp_15 hl0 ?_
  obtain ⟨v11, c12⟩ : ∃ v, I0 a0 8 = v := ⟨_, rfl⟩
  have b13 := iv15_8 hS0.1 ta0 c12
  refine q_callVv hE (M' := mX12_goesOn) (as := []) dX12_readAlp_16 lk12_142 inX12_goesOn seX12_goesOn myX12_goesOn (by decide) ⟨by decide, by decide⟩ rfl (kR15 hS0.1 ta0) (Nat.le_of_ble_eq_true rfl) rfl rfl (by decide) (by decide) (k_X12_goesOn hS0.1 ta0) ?_
  rintro cn' K' N' I14 R15 L16 ⟨rfl, rfl, rfl, rfl, g17, p19, p20, p21, w22, -⟩
  have hS23 := hS0.tr g17 (by decide +kernel) (by decide +kernel)
  have c24 : I14 a0 13 = v7 := (g17.cell ta0 (by decide +kernel)).trans c8
  have c25 : I14 a0 14 = v9 := (g17.cell ta0 (by decide +kernel)).trans c10
  obtain ⟨v26, c27⟩ : ∃ v, I14 a0 9 = v := ⟨_, rfl⟩
  have b28 := iv15_9 hS23.1 ta0 c27
  rw [c4] at p19
  rw [c27] at p19
  rw [c4] at p20
  rw [c27] at p20
  obtain ⟨v29, c30⟩ : ∃ v, I14 a0 8 = v := ⟨_, rfl⟩
  have b31 := iv15_8 hS23.1 ta0 c30
  rw [c30] at p21
  rw [c12] at p21
  rw [c24] at p21
  rw [c8] at p21
  have ov32 := w22.over (by rw [c4]; exact om_394b70a2 p6)
  obtain ⟨v33, c34⟩ : ∃ v, I14 a0 9 = v := ⟨_, rfl⟩
  have b35 := iv15_9 hS23.1 ta0 c34
  obtain ⟨v36, c37⟩ : ∃ v, I14 a0 13 = v := ⟨_, rfl⟩
  obtain ⟨v38, c39⟩ : ∃ v, I14 a0 14 = v := ⟨_, rfl⟩
  (try rw [c34] at ov32)
  (try rw [c37] at ov32)
  (try rw [c39] at ov32)
  (try rw [c4] at ov32)
  (try rw [c8] at ov32)
  (try rw [c10] at ov32)
  refine sf_oA19 hE hZ hS23.1 (gB) ta0 (by (try rw [c34]); first | done | with_reducible assumption | exact om_394b70a2 ov32.1) ⟨_, d2⟩ hl0 ?_
  rintro I40 R41 L42 ⟨g43, p44, p45, p46, -⟩
  obtain rfl : R0 = R41 := funext fun a => funext fun j => (g43.2.2 a j (wm_no rfl)).symm
  have hS47 := hS23.tr g43 (by decide +kernel) (by decide +kernel)
  obtain ⟨v48, c49⟩ : ∃ v, I40 a0 9 = v := ⟨_, rfl⟩
  have b50 := iv15_9 hS47.1 ta0 c49
  rw [c49] at p44
  obtain ⟨v51, c52⟩ : ∃ v, I40 a0 13 = v := ⟨_, rfl⟩
  rw [c52] at p45
  rw [c37] at p45
  obtain ⟨v53, c54⟩ : ∃ v, I40 a0 14 = v := ⟨_, rfl⟩
  rw [c54] at p46
  rw [c39] at p46
  exact hq _ _ _ ⟨hS47, (by (try rw [c49]); first | done | with_reducible assumption | omega), (by (try rw [c52]); (try rw [c8]); first | done | with_reducible assumption | exact om_9fa72578 ov32.2.1 p45), (by (try rw [c54]); (try rw [c10]); first | done | with_reducible assumption | exact om_9fa72578 ov32.2.2 p46), trivial⟩
def wik_X12_readAlp : List Nat := [896, 897, 968, 969, 970, 971, 972, 973, 974, 3455]
def wrk_X12_readAlp : List Nat := []
def wlk_X12_readAlp : List Nat := [975]
set_option maxHeartbeats 4000000 in
theorem fk_X12_readAlp {l : Launch} {T : Nat → Nat} {cn : Nat} {K N : Nat → Nat} {I0 : cz_I} {R0 : cz_R} {L0 : cz_L} (hW0 : Wf T cn K N I0 R0 0) (gB : cz_B) (gs : Int) (gQ : Nat → Int) {a0 : Nat} (ta0 : T a0 = 15) (hT : ∀ t, R0 a0 5 = some t → Tx I0 t gB) (hN : ∀ b, R0 a0 4 = some b → NmM I0 R0 L0 b gQ) (pre0 : (I0 a0 9).toInt = (tkM gB gs)) (pre1 : (I0 a0 9).toInt ≤ 4) (pre2 : (I0 a0 10).toInt = (tkS gB gs)) (pre3 : (I0 a0 11).toInt = (tkG gB gs)) (pre4 : (AtW ((tkK gB gs)) ((L0 a0 15).toInt) ((tkW gB gs)))) (pre5 : (AtV ((tkK gB gs)) ((I0 a0 12).toInt) ((tkV gB gs)))) (pre6 : (AtN ((tkK gB gs)) ((I0 a0 8).toInt) ((tkN gB gs)))) (pre7 : (I0 a0 7).toInt = (gB.2)) (pre8 : ∀ b1, R0 a0 4 = some b1 → (I0 b1 0).toInt = (gQ 0)) (pre9 : ∀ b1, R0 a0 4 = some b1 → (I0 b1 1).toInt = (gQ 1)) (pre10 : ∀ b1, R0 a0 4 = some b1 → (I0 b1 2).toInt = (gQ 2)) (pre11 : ∀ b1, R0 a0 4 = some b1 → (I0 b1 3).toInt = (gQ 3)) (pre12 : ∀ b1, R0 a0 4 = some b1 → (I0 b1 4).toInt = (gQ 4)) (pre13 : ∀ b1, R0 a0 4 = some b1 → (I0 b1 5).toInt = (gQ 5)) (pre14 : ∀ b1, R0 a0 4 = some b1 → (I0 b1 6).toInt = (gQ 6)) (pre15 : ∀ b1, R0 a0 4 = some b1 → (I0 b1 9).toInt = (gQ 8)) (pre16 : (Q7M ((gQ 0)) ((gQ 7)))) (pre17 : (tkK gB gs) = 1) (pre18 : (srt gB gs) = 10) (nn4 : ∃ b, R0 a0 4 = some b) : ConE l mX12_readAlp [.ref a0] cn K N I0 R0 L0 (ca_v (fun cn' K' N' I' R' L' => cn = cn' ∧ K = K' ∧ N = N' ∧ R0 = R' ∧ St T cn K N 0 wik_X12_readAlp wrk_X12_readAlp I0 R0 I' R0 ∧ (∀ dr, R0 a0 4 = some dr → FrO 14 dr T I0 I') ∧ ((((lnF gB gQ gs) = 0) ∧ (∀ b1, R0 a0 4 = some b1 → (I' b1 0).toInt = (lnQ gB gQ gs 0)) ∧ (∀ b1, R0 a0 4 = some b1 → (I' b1 1).toInt = (lnQ gB gQ gs 1)) ∧ (∀ b1, R0 a0 4 = some b1 → (I' b1 2).toInt = (lnQ gB gQ gs 2)) ∧ (∀ b1, R0 a0 4 = some b1 → (I' b1 3).toInt = (lnQ gB gQ gs 3)) ∧ (∀ b1, R0 a0 4 = some b1 → (I' b1 4).toInt = (lnQ gB gQ gs 4)) ∧ (∀ b1, R0 a0 4 = some b1 → (I' b1 5).toInt = (lnQ gB gQ gs 5)) ∧ (∀ b1, R0 a0 4 = some b1 → (I' b1 6).toInt = (lnQ gB gQ gs 6)) ∧ (∀ b1, R0 a0 4 = some b1 → (I' b1 9).toInt = (lnQ gB gQ gs 8)) ∧ ((I' a0 13).toInt = (I0 a0 13).toInt) ∧ ((I' a0 9).toInt = (tkM gB (lnS gB gQ gs))) ∧ ((I' a0 9).toInt ≤ 4) ∧ ((I' a0 10).toInt = (tkS gB (lnS gB gQ gs))) ∧ ((I' a0 11).toInt = (tkG gB (lnS gB gQ gs))) ∧ ((AtW ((tkK gB (lnS gB gQ gs))) ((L' a0 15).toInt) ((tkW gB (lnS gB gQ gs))))) ∧ ((AtV ((tkK gB (lnS gB gQ gs))) ((I' a0 12).toInt) ((tkV gB (lnS gB gQ gs))))) ∧ ((AtN ((tkK gB (lnS gB gQ gs))) ((I' a0 8).toInt) ((tkN gB (lnS gB gQ gs))))) ∧ LgS T wlk_X12_readAlp L0 L' ∧ (∀ b, R0 a0 4 = some b → NmM I' R0 L' b (lnQ gB gQ gs)) ∧ True) ∨ (((lnF gB gQ gs) ≠ 0) ∧ ((I' a0 9).toInt = 5) ∧ ((I' a0 13).toInt = (lnF gB gQ gs)) ∧ ((I' a0 14).toInt = (lnP gB gQ gs)) ∧ True)) ∧ True)) := by
  refine ConE.of (by decide +kernel) rfl (Nat.le_of_ble_eq_true rfl) rfl (fun X hX hZ hE => ?_)
  subst hX
  have hS0 : St T cn K N 0 wik_X12_readAlp wrk_X12_readAlp I0 R0 I0 R0 := St.rf0 hW0
  have hL0 : LgS T wlk_X12_readAlp L0 L0 := LgS.rf0
  obtain ⟨a1, d2⟩ := nn4
  have ta1 : T a1 = 14 := hW0.rsN ta0 rfl d2
  obtain ⟨v3, c4⟩ : ∃ v, I0 a0 9 = v := ⟨_, rfl⟩
  have b5 := iv15_9 hS0.1 ta0 c4
  have p6 := pre0
  rw [c4] at p6
  have p7 := pre1
  rw [c4] at p7
  obtain ⟨v8, c9⟩ : ∃ v, I0 a0 10 = v := ⟨_, rfl⟩
  have b10 := iv15_10 hS0.1 ta0 c9
  have p11 := pre2
  rw [c9] at p11
  obtain ⟨v12, c13⟩ : ∃ v, I0 a0 11 = v := ⟨_, rfl⟩
  have p14 := pre3
  rw [c13] at p14
  obtain ⟨y15, c16⟩ : ∃ v, L0 a0 15 = v := ⟨_, rfl⟩
  have p17 := pre4
  rw [c16] at p17
  obtain ⟨v18, c19⟩ : ∃ v, I0 a0 12 = v := ⟨_, rfl⟩
  have p20 := pre5
  rw [c19] at p20
  obtain ⟨v21, c22⟩ : ∃ v, I0 a0 8 = v := ⟨_, rfl⟩
  have b23 := iv15_8 hS0.1 ta0 c22
  have p24 := pre6
  rw [c22] at p24
  obtain ⟨v25, c26⟩ : ∃ v, I0 a0 7 = v := ⟨_, rfl⟩
  have b27 := iv15_7 hW0 ta0 c26
  have p28 := pre7
  rw [c26] at p28
  obtain ⟨v29, c30⟩ : ∃ v, I0 a1 0 = v := ⟨_, rfl⟩
  have b31 := iv14_0 hS0.1 ta1 c30
  have p32 := pre8 _ d2
  rw [c30] at p32
  obtain ⟨v33, c34⟩ : ∃ v, I0 a1 1 = v := ⟨_, rfl⟩
  have b35 := iv14_1 hS0.1 ta1 c34
  have p36 := pre9 _ d2
  rw [c34] at p36
  obtain ⟨v37, c38⟩ : ∃ v, I0 a1 2 = v := ⟨_, rfl⟩
  have b39 := iv14_2 hW0 ta1 c38
  have p40 := pre10 _ d2
  rw [c38] at p40
  obtain ⟨v41, c42⟩ : ∃ v, I0 a1 3 = v := ⟨_, rfl⟩
  have b43 := iv14_3 hW0 ta1 c42
  have p44 := pre11 _ d2
  rw [c42] at p44
  obtain ⟨v45, c46⟩ : ∃ v, I0 a1 4 = v := ⟨_, rfl⟩
  have b47 := iv14_4 hW0 ta1 c46
  have p48 := pre12 _ d2
  rw [c46] at p48
  obtain ⟨v49, c50⟩ : ∃ v, I0 a1 5 = v := ⟨_, rfl⟩
  have b51 := iv14_5 hW0 ta1 c50
  have p52 := pre13 _ d2
  rw [c50] at p52
  obtain ⟨v53, c54⟩ : ∃ v, I0 a1 6 = v := ⟨_, rfl⟩
  have b55 := iv14_6 hW0 ta1 c54
  have p56 := pre14 _ d2
  rw [c54] at p56
  obtain ⟨v57, c58⟩ : ∃ v, I0 a1 9 = v := ⟨_, rfl⟩
  have b59 := iv14_9 hW0 ta1 c58
  have p60 := pre15 _ d2
  rw [c58] at p60
  have p61 := pre16
  have p62 := pre17
  have p63 := pre18
  obtain ⟨v64, c65⟩ : ∃ v, I0 a0 13 = v := ⟨_, rfl⟩
  have hM0 := hN _ d2
  have hO0 : FrO 14 a1 T I0 I0 := FrO.rf
  have hF := lnF_ch gB gQ gs
  have hP := lnP_ch gB gQ gs
  replace hF := hF.neg (by exact om_c465422e pre18)
  replace hP := hP.neg (by exact om_c465422e pre18)
  refine tr_aload_n dX12_readAlp_0 rfl ?_
  refine tr_getR dX12_readAlp_1 fl12_188 (kR15 hS0.1 ta0) d2 ?_
  refine q_getI dX12_readAlp_4 fl12_192 (kR14 hS0.1 ta1) c30 ?_
  refine q_if_le 15 dX12_readAlp_7 (by decide) (fun h66 => ?_) (fun h66 => ?_)
  · skip
    have p67 := p61
    unfold Q7M at p67
    replace hF := hF.neg (by exact om_03959a57 pre18 b31.2 b31.1 p32 h66 p67)
    replace hP := hP.neg (by exact om_03959a57 pre18 b31.2 b31.1 p32 h66 p67)
    replace hF := hF.neg (by exact om_a2747490 pre18)
    replace hP := hP.neg (by exact om_a2747490 pre18)
    replace hF := hF.neg (by exact om_76457f53 pre18)
    replace hP := hP.neg (by exact om_76457f53 pre18)
    refine tr_aload_n dX12_readAlp_15 rfl ?_
    have p68 := p24 (by exact om_e0d38eff pre17)
    refine q_callVv hE (M' := mX12_goesOn) (as := []) dX12_readAlp_16 lk12_142 inX12_goesOn seX12_goesOn myX12_goesOn (by decide) ⟨by decide, by decide⟩ rfl (kR15 hS0.1 ta0) (Nat.le_of_ble_eq_true rfl) rfl rfl (by decide) (by decide) (fk_X12_goesOn hS0.1 (gB) ((tkN gB gs)) ta0 (TxA.kp hT hS0 ta0 rfl rfl rfl (by decide +kernel) (by decide +kernel)) (by (try rw [c22]); first | done | with_reducible assumption | omega) (by (try rw [c26]); first | done | with_reducible assumption | omega) (by (try rw [c4]); first | done | with_reducible assumption | exact om_df98ac7c pre0 pre1 b5.2 b5.1 p6)) ?_
    rintro cn' K' N' I69 R70 L71 ⟨rfl, rfl, rfl, rfl, g72, gl73, p75, p76, p77, p78, p79, p80, p81, -⟩
    have hM82 : NmM I69 R0 L0 a1 gQ := NmM.kpS hM0 g72 hS0.1 ta1 (by decide +kernel) (by decide +kernel)
    have hS83 := hS0.tr g72 (by decide +kernel) (by decide +kernel)
    have c84 : I69 a1 0 = v29 := (g72.cell ta1 (by decide +kernel)).trans c30
    have c85 : I69 a1 1 = v33 := (g72.cell ta1 (by decide +kernel)).trans c34
    have c86 : I69 a0 13 = v64 := (g72.cell ta0 (by decide +kernel)).trans c65
    have hO87 : FrO 14 a1 T I0 I69 := hO0.st g72 (by decide +kernel)
    have hL88 := hL0.tr gl73 (by decide +kernel)
    have hM89 : NmM I69 R0 L71 a1 gQ := NmM.kpL hM82 gl73 hS83.1 ta1 (by decide +kernel)
    obtain ⟨v90, c91⟩ : ∃ v, I69 a0 9 = v := ⟨_, rfl⟩
    have b92 := iv15_9 hS83.1 ta0 c91
    rw [c91] at p75
    rw [c91] at p76
    obtain ⟨v93, c94⟩ : ∃ v, I69 a0 10 = v := ⟨_, rfl⟩
    have b95 := iv15_10 hS83.1 ta0 c94
    rw [c94] at p77
    obtain ⟨v96, c97⟩ : ∃ v, I69 a0 11 = v := ⟨_, rfl⟩
    rw [c97] at p78
    obtain ⟨y98, c99⟩ : ∃ v, L71 a0 15 = v := ⟨_, rfl⟩
    rw [c99] at p79
    obtain ⟨v100, c101⟩ : ∃ v, I69 a0 12 = v := ⟨_, rfl⟩
    rw [c101] at p80
    obtain ⟨v102, c103⟩ : ∃ v, I69 a0 8 = v := ⟨_, rfl⟩
    have b104 := iv15_8 hS83.1 ta0 c103
    rw [c103] at p81
    obtain ⟨w105, w106, w107, w108, w109, w110, w111, w112, w113, w114, w115, w116⟩ := lnl_10 (B := gB) (Q := gQ) (s := gs) (by exact om_e3967f06 p63)
    replace hF := hF.to w105 (alF_ch gB gQ (tkN gB gs))
    replace hP := hP.to w106 (alP_ch gB gQ (tkN gB gs))
    refine tr_aload_n dX12_readAlp_19 rfl ?_
    refine tr_ldcS dX12_readAlp_20 ld12_248 ?_
    refine q_bipush dX12_readAlp_22 (by decide +kernel) ?_
    intro v117 h118
    refine q_sipush dX12_readAlp_24 (by decide +kernel) ?_
    intro v119 h120
    refine q_callVi hE (M' := mX12_readPart) (as := [_, _, _]) dX12_readAlp_27 lk12_249 inX12_readPart seX12_readPart myX12_readPart (by decide) ⟨by decide, by decide⟩ rfl (kR15 hS83.1 ta0) (Nat.le_of_ble_eq_true rfl) rfl rfl (by decide) (by decide) (fk_X12_readPart hS83.1 (gB) ((tkN gB gs)) ta0 (by decide) (TxA.kp hT hS83 ta0 rfl rfl rfl (by decide +kernel) (by decide +kernel)) (by (try rw [c91]); first | done | with_reducible assumption | omega) (by (try rw [c91]); first | done | with_reducible assumption | omega) (by (try rw [c94]); first | done | with_reducible assumption | omega) (by (try rw [c97]); first | done | with_reducible assumption | omega) (by (try rw [c99]); first | done | assumption) (by (try rw [c101]); first | done | assumption) (by (try rw [c103]); first | done | assumption) (by (try rw [((hS83.cell ta0 (by decide +kernel)).trans c26)]); first | done | with_reducible assumption | omega)) ?_
    rintro v126 cn' K' N' I121 R122 L123 ⟨rfl, rfl, rfl, rfl, g124, dj127, -⟩
    (try rw [pk_18] at dj127)
    have hM128 : NmM I121 R0 L71 a1 gQ := NmM.kpS hM89 g124 hS83.1 ta1 (by decide +kernel) (by decide +kernel)
    have hS129 := hS83.tr g124 (by decide +kernel) (by decide +kernel)
    have c130 : I121 a1 0 = v29 := (g124.cell ta1 (by decide +kernel)).trans c84
    have c131 : I121 a1 1 = v33 := (g124.cell ta1 (by decide +kernel)).trans c85
    have hO132 : FrO 14 a1 T I0 I121 := hO87.st g124 (by decide +kernel)
    rcases dj127 with ⟨p133, p134, p135, p136, p137, p138, p139, p140, p141, p142, p143, p144, p145, p146, gl147, -⟩ | ⟨p148, p149, p150, p151, p152, -⟩ | ⟨p153, p154, p155, p156, p157, p158, p159, -⟩ | ⟨p160, p161, p162, p163, p164, p165, p166, p167, -⟩
    · skip
      have hL168 := hL88.tr gl147 (by decide +kernel)
      have hM169 : NmM I121 R0 L123 a1 gQ := NmM.kpL hM128 gl147 hS129.1 ta1 (by decide +kernel)
      obtain ⟨v170, c171⟩ : ∃ v, I121 a0 13 = v := ⟨_, rfl⟩
      rw [c171] at p139
      rw [c86] at p139
      obtain ⟨v172, c173⟩ : ∃ v, I121 a0 9 = v := ⟨_, rfl⟩
      have b174 := iv15_9 hS129.1 ta0 c173
      rw [c173] at p140
      rw [c173] at p141
      obtain ⟨v175, c176⟩ : ∃ v, I121 a0 10 = v := ⟨_, rfl⟩
      have b177 := iv15_10 hS129.1 ta0 c176
      rw [c176] at p142
      obtain ⟨v178, c179⟩ : ∃ v, I121 a0 11 = v := ⟨_, rfl⟩
      rw [c179] at p143
      obtain ⟨y180, c181⟩ : ∃ v, L123 a0 15 = v := ⟨_, rfl⟩
      rw [c181] at p144
      obtain ⟨v182, c183⟩ : ∃ v, I121 a0 12 = v := ⟨_, rfl⟩
      rw [c183] at p145
      obtain ⟨v184, c185⟩ : ∃ v, I121 a0 8 = v := ⟨_, rfl⟩
      have b186 := iv15_8 hS129.1 ta0 c185
      rw [c185] at p146
      replace hF := hF.neg (by exact om_3aac0632 p134 p135)
      replace hP := hP.neg (by exact om_3aac0632 p134 p135)
      replace hF := hF.neg (by exact om_10ed11b5 p136)
      replace hP := hP.neg (by exact om_10ed11b5 p136)
      replace hF := hF.neg (by exact om_687902d0 h118 h120 p133 p137 p138)
      replace hP := hP.neg (by exact om_687902d0 h118 h120 p133 p137 p138)
      refine tr_istore_n dX12_readAlp_30 (by decide) (by decide) ?_
      refine tr_aload_n dX12_readAlp_31 rfl ?_
      refine tr_ldcS dX12_readAlp_32 ld12_253 ?_
      refine q_iconst dX12_readAlp_34 (by decide) ?_
      intro v187 h188
      refine q_iconst dX12_readAlp_35 (by decide) ?_
      intro v189 h190
      refine q_callVi hE (M' := mX12_readPart) (as := [_, _, _]) dX12_readAlp_36 lk12_249 inX12_readPart seX12_readPart myX12_readPart (by decide) ⟨by decide, by decide⟩ rfl (kR15 hS129.1 ta0) (Nat.le_of_ble_eq_true rfl) rfl rfl (by decide) (by decide) (fk_X12_readPart hS129.1 (gB) ((tkN gB (tkN gB (tkN gB gs)))) ta0 (by decide) (TxA.kp hT hS129 ta0 rfl rfl rfl (by decide +kernel) (by decide +kernel)) (by (try rw [c173]); first | done | with_reducible assumption | omega) (by (try rw [c173]); first | done | with_reducible assumption | omega) (by (try rw [c176]); first | done | with_reducible assumption | omega) (by (try rw [c179]); first | done | with_reducible assumption | omega) (by (try rw [c181]); first | done | assumption) (by (try rw [c183]); first | done | assumption) (by (try rw [c185]); first | done | assumption) (by (try rw [((hS129.cell ta0 (by decide +kernel)).trans c26)]); first | done | with_reducible assumption | omega)) ?_
      rintro v196 cn' K' N' I191 R192 L193 ⟨rfl, rfl, rfl, rfl, g194, dj197, -⟩
      (try rw [pk_16] at dj197)
      have hM198 : NmM I191 R0 L123 a1 gQ := NmM.kpS hM169 g194 hS129.1 ta1 (by decide +kernel) (by decide +kernel)
      have hS199 := hS129.tr g194 (by decide +kernel) (by decide +kernel)
      have c200 : I191 a1 0 = v29 := (g194.cell ta1 (by decide +kernel)).trans c130
      have c201 : I191 a1 1 = v33 := (g194.cell ta1 (by decide +kernel)).trans c131
      have hO202 : FrO 14 a1 T I0 I191 := hO132.st g194 (by decide +kernel)
      rcases dj197 with ⟨p203, p204, p205, p206, p207, p208, p209, p210, p211, p212, p213, p214, p215, p216, gl217, -⟩ | ⟨p218, p219, p220, p221, p222, -⟩ | ⟨p223, p224, p225, p226, p227, p228, p229, -⟩ | ⟨p230, p231, p232, p233, p234, p235, p236, p237, -⟩
      · skip
        have hL238 := hL168.tr gl217 (by decide +kernel)
        have hM239 : NmM I191 R0 L193 a1 gQ := NmM.kpL hM198 gl217 hS199.1 ta1 (by decide +kernel)
        obtain ⟨v240, c241⟩ : ∃ v, I191 a0 13 = v := ⟨_, rfl⟩
        rw [c241] at p209
        rw [c171] at p209
        obtain ⟨v242, c243⟩ : ∃ v, I191 a0 9 = v := ⟨_, rfl⟩
        have b244 := iv15_9 hS199.1 ta0 c243
        rw [c243] at p210
        rw [c243] at p211
        obtain ⟨v245, c246⟩ : ∃ v, I191 a0 10 = v := ⟨_, rfl⟩
        have b247 := iv15_10 hS199.1 ta0 c246
        rw [c246] at p212
        obtain ⟨v248, c249⟩ : ∃ v, I191 a0 11 = v := ⟨_, rfl⟩
        rw [c249] at p213
        obtain ⟨y250, c251⟩ : ∃ v, L193 a0 15 = v := ⟨_, rfl⟩
        rw [c251] at p214
        obtain ⟨v252, c253⟩ : ∃ v, I191 a0 12 = v := ⟨_, rfl⟩
        rw [c253] at p215
        obtain ⟨v254, c255⟩ : ∃ v, I191 a0 8 = v := ⟨_, rfl⟩
        have b256 := iv15_8 hS199.1 ta0 c255
        rw [c255] at p216
        replace hF := hF.neg (by exact om_775460f3 p204 p205)
        replace hP := hP.neg (by exact om_775460f3 p204 p205)
        replace hF := hF.neg (by exact om_10ed11b5 p206)
        replace hP := hP.neg (by exact om_10ed11b5 p206)
        replace hF := hF.neg (by exact om_93cb55ae h188 h190 p203 p207 p208)
        replace hP := hP.neg (by exact om_93cb55ae h188 h190 p203 p207 p208)
        refine tr_istore_n dX12_readAlp_39 (by decide) (by decide) ?_
        refine tr_aload_n dX12_readAlp_40 rfl ?_
        refine tr_ldcS dX12_readAlp_41 ld12_255 ?_
        refine q_callVv hE (M' := mX12_needs) (as := [_]) dX12_readAlp_43 lk12_157 inX12_needs seX12_needs myX12_needs (by decide) ⟨by decide, by decide⟩ rfl (kR15 hS199.1 ta0) (Nat.le_of_ble_eq_true rfl) rfl rfl (by decide) (by decide) (fk_X12_needs hS199.1 (gB) ((tkN gB (tkN gB (tkN gB (tkN gB (tkN gB gs)))))) ta0 (by decide) (TxA.kp hT hS199 ta0 rfl rfl rfl (by decide +kernel) (by decide +kernel)) (by (try rw [c243]); first | done | with_reducible assumption | omega) (by (try rw [c243]); first | done | with_reducible assumption | omega) (by (try rw [c246]); first | done | with_reducible assumption | omega) (by (try rw [c249]); first | done | with_reducible assumption | omega) (by (try rw [c251]); first | done | assumption) (by (try rw [c253]); first | done | assumption) (by (try rw [c255]); first | done | assumption) (by (try rw [((hS199.cell ta0 (by decide +kernel)).trans c26)]); first | done | with_reducible assumption | omega)) ?_
        rintro cn' K' N' I257 R258 L259 ⟨rfl, rfl, rfl, rfl, g260, dj263, -⟩
        (try rw [pk_20] at dj263)
        have hM264 : NmM I257 R0 L193 a1 gQ := NmM.kpS hM239 g260 hS199.1 ta1 (by decide +kernel) (by decide +kernel)
        have hS265 := hS199.tr g260 (by decide +kernel) (by decide +kernel)
        have c266 : I257 a1 0 = v29 := (g260.cell ta1 (by decide +kernel)).trans c200
        have c267 : I257 a1 1 = v33 := (g260.cell ta1 (by decide +kernel)).trans c201
        have hO268 : FrO 14 a1 T I0 I257 := hO202.st g260 (by decide +kernel)
        rcases dj263 with ⟨p269, p270, p271, p272, p273, p274, p275, p276, p277, p278, gl279, -⟩ | ⟨p280, p281, p282, p283, -⟩
        · skip
          have hL284 := hL238.tr gl279 (by decide +kernel)
          have hM285 : NmM I257 R0 L259 a1 gQ := NmM.kpL hM264 gl279 hS265.1 ta1 (by decide +kernel)
          obtain ⟨v286, c287⟩ : ∃ v, I257 a0 13 = v := ⟨_, rfl⟩
          rw [c287] at p271
          rw [c241] at p271
          obtain ⟨v288, c289⟩ : ∃ v, I257 a0 9 = v := ⟨_, rfl⟩
          have b290 := iv15_9 hS265.1 ta0 c289
          rw [c289] at p272
          rw [c289] at p273
          obtain ⟨v291, c292⟩ : ∃ v, I257 a0 10 = v := ⟨_, rfl⟩
          have b293 := iv15_10 hS265.1 ta0 c292
          rw [c292] at p274
          obtain ⟨v294, c295⟩ : ∃ v, I257 a0 11 = v := ⟨_, rfl⟩
          rw [c295] at p275
          obtain ⟨y296, c297⟩ : ∃ v, L259 a0 15 = v := ⟨_, rfl⟩
          rw [c297] at p276
          obtain ⟨v298, c299⟩ : ∃ v, I257 a0 12 = v := ⟨_, rfl⟩
          rw [c299] at p277
          obtain ⟨v300, c301⟩ : ∃ v, I257 a0 8 = v := ⟨_, rfl⟩
          have b302 := iv15_8 hS265.1 ta0 c301
          rw [c301] at p278
          replace hF := hF.neg (by exact om_2666d1da p269 p270)
          replace hP := hP.neg (by exact om_2666d1da p269 p270)
          refine q_iconst dX12_readAlp_46 (by decide) ?_
          intro v303 h304
          refine tr_istore_n dX12_readAlp_47 (by decide) (by decide) ?_
          refine tr_iload_n dX12_readAlp_48 rfl ?_
          refine q_iconst dX12_readAlp_49 (by decide) ?_
          intro v305 h306
          refine q_icmp_ge 85 dX12_readAlp_50 (by decide) (fun h307 => ?_) (fun h307 => ?_)
          · skip
            exfalso; exact om_04e31de8 h304 h306 h307
          · skip
            refine tr_iload_n dX12_readAlp_53 rfl ?_
            refine q_if_le 63 dX12_readAlp_54 (by decide) (fun h308 => ?_) (fun h308 => ?_)
            · skip
              refine tr_aload_n dX12_readAlp_63 rfl ?_
              refine tr_getR dX12_readAlp_64 fl12_188 (kR15 hS265.1 ta0) d2 ?_
              obtain ⟨a309, d310, ta309⟩ := rf14_10 hW0 ta1
              refine tr_getR dX12_readAlp_67 fl12_260 (kR14 hS265.1 ta1) d310 ?_
              refine tr_iload_n dX12_readAlp_70 rfl ?_
              refine tr_aload_n dX12_readAlp_71 rfl ?_
              refine q_iconst dX12_readAlp_72 (by decide) ?_
              intro v311 h312
              refine q_bipush dX12_readAlp_73 (by decide +kernel) ?_
              intro v313 h314
              refine q_callVi hE (M' := mX12_readWhole) (as := [_, _]) dX12_readAlp_75 lk12_161 inX12_readWhole seX12_readWhole myX12_readWhole (by decide) ⟨by decide, by decide⟩ rfl (kR15 hS265.1 ta0) (Nat.le_of_ble_eq_true rfl) rfl rfl (by decide) (by decide) (fk_X12_readWhole hS265.1 (gB) ((tkN gB (tkN gB (tkN gB (tkN gB (tkN gB (tkN gB gs))))))) ta0 (TxA.kp hT hS265 ta0 rfl rfl rfl (by decide +kernel) (by decide +kernel)) (by (try rw [c289]); first | done | with_reducible assumption | omega) (by (try rw [c289]); first | done | with_reducible assumption | omega) (by (try rw [c292]); first | done | with_reducible assumption | omega) (by (try rw [c295]); first | done | with_reducible assumption | omega) (by (try rw [c297]); first | done | assumption) (by (try rw [c299]); first | done | assumption) (by (try rw [c301]); first | done | assumption) (by (try rw [((hS265.cell ta0 (by decide +kernel)).trans c26)]); first | done | with_reducible assumption | omega)) ?_
              rintro v320 cn' K' N' I315 R316 L317 ⟨rfl, rfl, rfl, rfl, g318, dj321, -⟩
              have hM322 : NmM I315 R0 L259 a1 gQ := NmM.kpS hM285 g318 hS265.1 ta1 (by decide +kernel) (by decide +kernel)
              have hS323 := hS265.tr g318 (by decide +kernel) (by decide +kernel)
              have c324 : I315 a1 0 = v29 := (g318.cell ta1 (by decide +kernel)).trans c266
              have c325 : I315 a1 1 = v33 := (g318.cell ta1 (by decide +kernel)).trans c267
              have hO326 : FrO 14 a1 T I0 I315 := hO268.st g318 (by decide +kernel)
              rcases dj321 with ⟨p327, p328, p329, p330, p331, p332, p333, p334, p335, p336, p337, p338, gl339, -⟩ | ⟨p340, p341, p342, p343, p344, -⟩ | ⟨p345, p346, p347, p348, p349, p350, -⟩
              · skip
                have hL351 := hL284.tr gl339 (by decide +kernel)
                have hM352 : NmM I315 R0 L317 a1 gQ := NmM.kpL hM322 gl339 hS323.1 ta1 (by decide +kernel)
                obtain ⟨v353, c354⟩ : ∃ v, I315 a0 13 = v := ⟨_, rfl⟩
                rw [c354] at p331
                rw [c287] at p331
                obtain ⟨v355, c356⟩ : ∃ v, I315 a0 9 = v := ⟨_, rfl⟩
                have b357 := iv15_9 hS323.1 ta0 c356
                rw [c356] at p332
                rw [c356] at p333
                obtain ⟨v358, c359⟩ : ∃ v, I315 a0 10 = v := ⟨_, rfl⟩
                have b360 := iv15_10 hS323.1 ta0 c359
                rw [c359] at p334
                obtain ⟨v361, c362⟩ : ∃ v, I315 a0 11 = v := ⟨_, rfl⟩
                rw [c362] at p335
                obtain ⟨y363, c364⟩ : ∃ v, L317 a0 15 = v := ⟨_, rfl⟩
                rw [c364] at p336
                obtain ⟨v365, c366⟩ : ∃ v, I315 a0 12 = v := ⟨_, rfl⟩
                rw [c366] at p337
                obtain ⟨v367, c368⟩ : ∃ v, I315 a0 8 = v := ⟨_, rfl⟩
                have b369 := iv15_8 hS323.1 ta0 c368
                rw [c368] at p338
                replace hF := hF.neg (by exact om_10ed11b5 p328)
                replace hP := hP.neg (by exact om_10ed11b5 p328)
                replace hF := hF.neg (by exact om_6dc00766 h312 h314 p329 p330)
                replace hP := hP.neg (by exact om_6dc00766 h312 h314 p329 p330)
                refine q_iast dX12_readAlp_78 (kR53 hS323.1 ta309) (ti_in (nR53 hS323.1 ta309) (by exact om_d99fa9e4 h304) (by exact om_e7afc65a h304)) hS323 ta309 (iokF rfl) rfl (by rfl) ?_
                intro I370 hS371 e373 f372
                have c374 : I370 a1 0 = v29 := (f372 _ _ (fun q => by have z := ta1; rw [q.1, ta309] at z; exact absurd z (by decide))).trans c324
                have c375 : I370 a1 1 = v33 := (f372 _ _ (fun q => by have z := ta1; rw [q.1, ta309] at z; exact absurd z (by decide))).trans c325
                have c376 : I370 a0 13 = v353 := (f372 _ _ (fun q => by have z := ta0; rw [q.1, ta309] at z; exact absurd z (by decide))).trans c354
                have c377 : I370 a0 9 = v355 := (f372 _ _ (fun q => by have z := ta0; rw [q.1, ta309] at z; exact absurd z (by decide))).trans c356
                have c378 : I370 a0 10 = v358 := (f372 _ _ (fun q => by have z := ta0; rw [q.1, ta309] at z; exact absurd z (by decide))).trans c359
                have c379 : I370 a0 11 = v361 := (f372 _ _ (fun q => by have z := ta0; rw [q.1, ta309] at z; exact absurd z (by decide))).trans c362
                have c380 : I370 a0 12 = v365 := (f372 _ _ (fun q => by have z := ta0; rw [q.1, ta309] at z; exact absurd z (by decide))).trans c366
                have c381 : I370 a0 8 = v367 := (f372 _ _ (fun q => by have z := ta0; rw [q.1, ta309] at z; exact absurd z (by decide))).trans c368
                have hO382 : FrO 14 a1 T I0 I370 := hO326.put f372 ta309 (Or.inl (by decide))
                have hM383 : NmM I370 R0 L317 a1 gQ := NmM.kp1 hM352 f372 ta309 rfl rfl hS323.1 ta1
                refine q_iincE dX12_readAlp_79 rfl (by decide) (by decide) (by intro j1 j2; exact om_502d7b61 h304) ?_
                intro v384 h385
                refine tr_goto 48 dX12_readAlp_82 (by decide) ?_
                refine tr_iload_n dX12_readAlp_48 rfl ?_
                refine q_iconst dX12_readAlp_49 (by decide) ?_
                intro v386 h387
                refine q_icmp_ge 85 dX12_readAlp_50 (by decide) (fun h388 => ?_) (fun h388 => ?_)
                · skip
                  exfalso; exact om_101a675e h304 h385 h387 h388
                · skip
                  refine tr_iload_n dX12_readAlp_53 rfl ?_
                  refine q_if_le 63 dX12_readAlp_54 (by decide) (fun h389 => ?_) (fun h389 => ?_)
                  · skip
                    exfalso; exact om_18f1b2af h304 h385 h389
                  · skip
                    refine tr_aload_n dX12_readAlp_57 rfl ?_
                    refine q_bipush dX12_readAlp_58 (by decide +kernel) ?_
                    intro v390 h391
                    refine q_callVv hE (M' := mX12_needsSign) (as := [_]) dX12_readAlp_60 lk12_257 inX12_needsSign seX12_needsSign myX12_needsSign (by decide) ⟨by decide, by decide⟩ rfl (kR15 hS371.1 ta0) (Nat.le_of_ble_eq_true rfl) rfl rfl (by decide) (by decide) (fk_X12_needsSign hS371.1 (gB) ((tkN gB (tkN gB (tkN gB (tkN gB (tkN gB (tkN gB (tkN gB gs)))))))) ta0 (TxA.kp hT hS371 ta0 rfl rfl rfl (by decide +kernel) (by decide +kernel)) (by (try rw [c377]); first | done | with_reducible assumption | omega) (by (try rw [c377]); first | done | with_reducible assumption | omega) (by (try rw [c378]); first | done | with_reducible assumption | omega) (by (try rw [c379]); first | done | with_reducible assumption | omega) (by (try rw [c364]); first | done | assumption) (by (try rw [c380]); first | done | assumption) (by (try rw [c381]); first | done | assumption) (by (try rw [((hS371.cell ta0 (by decide +kernel)).trans c26)]); first | done | with_reducible assumption | omega) (by first | done | with_reducible assumption | exact om_00f2e567 h391)) ?_
                    rintro cn' K' N' I392 R393 L394 ⟨rfl, rfl, rfl, rfl, g395, dj398, -⟩
                    have hM399 : NmM I392 R0 L317 a1 gQ := NmM.kpS hM383 g395 hS371.1 ta1 (by decide +kernel) (by decide +kernel)
                    have hS400 := hS371.tr g395 (by decide +kernel) (by decide +kernel)
                    have c401 : I392 a1 0 = v29 := (g395.cell ta1 (by decide +kernel)).trans c374
                    have c402 : I392 a1 1 = v33 := (g395.cell ta1 (by decide +kernel)).trans c375
                    have hO403 : FrO 14 a1 T I0 I392 := hO382.st g395 (by decide +kernel)
                    rcases dj398 with ⟨p404, p405, p406, p407, p408, p409, p410, p411, p412, gl413, -⟩ | ⟨p414, p415, p416, p417, -⟩
                    · skip
                      have hL418 := hL351.tr gl413 (by decide +kernel)
                      have hM419 : NmM I392 R0 L394 a1 gQ := NmM.kpL hM399 gl413 hS400.1 ta1 (by decide +kernel)
                      obtain ⟨v420, c421⟩ : ∃ v, I392 a0 13 = v := ⟨_, rfl⟩
                      rw [c421] at p405
                      rw [c376] at p405
                      obtain ⟨v422, c423⟩ : ∃ v, I392 a0 9 = v := ⟨_, rfl⟩
                      have b424 := iv15_9 hS400.1 ta0 c423
                      rw [c423] at p406
                      rw [c423] at p407
                      obtain ⟨v425, c426⟩ : ∃ v, I392 a0 10 = v := ⟨_, rfl⟩
                      have b427 := iv15_10 hS400.1 ta0 c426
                      rw [c426] at p408
                      obtain ⟨v428, c429⟩ : ∃ v, I392 a0 11 = v := ⟨_, rfl⟩
                      rw [c429] at p409
                      obtain ⟨y430, c431⟩ : ∃ v, L394 a0 15 = v := ⟨_, rfl⟩
                      rw [c431] at p410
                      obtain ⟨v432, c433⟩ : ∃ v, I392 a0 12 = v := ⟨_, rfl⟩
                      rw [c433] at p411
                      obtain ⟨v434, c435⟩ : ∃ v, I392 a0 8 = v := ⟨_, rfl⟩
                      have b436 := iv15_8 hS400.1 ta0 c435
                      rw [c435] at p412
                      replace hF := hF.neg (by exact om_b0959078 h391 p404)
                      replace hP := hP.neg (by exact om_b0959078 h391 p404)
                      refine tr_aload_n dX12_readAlp_63 rfl ?_
                      refine tr_getR dX12_readAlp_64 fl12_188 (kR15 hS400.1 ta0) d2 ?_
                      refine tr_getR dX12_readAlp_67 fl12_260 (kR14 hS400.1 ta1) d310 ?_
                      refine tr_iload_n dX12_readAlp_70 rfl ?_
                      refine tr_aload_n dX12_readAlp_71 rfl ?_
                      refine q_iconst dX12_readAlp_72 (by decide) ?_
                      intro v437 h438
                      refine q_bipush dX12_readAlp_73 (by decide +kernel) ?_
                      intro v439 h440
                      refine q_callVi hE (M' := mX12_readWhole) (as := [_, _]) dX12_readAlp_75 lk12_161 inX12_readWhole seX12_readWhole myX12_readWhole (by decide) ⟨by decide, by decide⟩ rfl (kR15 hS400.1 ta0) (Nat.le_of_ble_eq_true rfl) rfl rfl (by decide) (by decide) (fk_X12_readWhole hS400.1 (gB) ((tkN gB (tkN gB (tkN gB (tkN gB (tkN gB (tkN gB (tkN gB (tkN gB gs))))))))) ta0 (TxA.kp hT hS400 ta0 rfl rfl rfl (by decide +kernel) (by decide +kernel)) (by (try rw [c423]); first | done | with_reducible assumption | omega) (by (try rw [c423]); first | done | with_reducible assumption | omega) (by (try rw [c426]); first | done | with_reducible assumption | omega) (by (try rw [c429]); first | done | with_reducible assumption | omega) (by (try rw [c431]); first | done | assumption) (by (try rw [c433]); first | done | assumption) (by (try rw [c435]); first | done | assumption) (by (try rw [((hS400.cell ta0 (by decide +kernel)).trans c26)]); first | done | with_reducible assumption | omega)) ?_
                      rintro v446 cn' K' N' I441 R442 L443 ⟨rfl, rfl, rfl, rfl, g444, dj447, -⟩
                      have hM448 : NmM I441 R0 L394 a1 gQ := NmM.kpS hM419 g444 hS400.1 ta1 (by decide +kernel) (by decide +kernel)
                      have hS449 := hS400.tr g444 (by decide +kernel) (by decide +kernel)
                      have c450 : I441 a1 0 = v29 := (g444.cell ta1 (by decide +kernel)).trans c401
                      have c451 : I441 a1 1 = v33 := (g444.cell ta1 (by decide +kernel)).trans c402
                      have hO452 : FrO 14 a1 T I0 I441 := hO403.st g444 (by decide +kernel)
                      rcases dj447 with ⟨p453, p454, p455, p456, p457, p458, p459, p460, p461, p462, p463, p464, gl465, -⟩ | ⟨p466, p467, p468, p469, p470, -⟩ | ⟨p471, p472, p473, p474, p475, p476, -⟩
                      · skip
                        have hL477 := hL418.tr gl465 (by decide +kernel)
                        have hM478 : NmM I441 R0 L443 a1 gQ := NmM.kpL hM448 gl465 hS449.1 ta1 (by decide +kernel)
                        obtain ⟨v479, c480⟩ : ∃ v, I441 a0 13 = v := ⟨_, rfl⟩
                        rw [c480] at p457
                        rw [c421] at p457
                        obtain ⟨v481, c482⟩ : ∃ v, I441 a0 9 = v := ⟨_, rfl⟩
                        have b483 := iv15_9 hS449.1 ta0 c482
                        rw [c482] at p458
                        rw [c482] at p459
                        obtain ⟨v484, c485⟩ : ∃ v, I441 a0 10 = v := ⟨_, rfl⟩
                        have b486 := iv15_10 hS449.1 ta0 c485
                        rw [c485] at p460
                        obtain ⟨v487, c488⟩ : ∃ v, I441 a0 11 = v := ⟨_, rfl⟩
                        rw [c488] at p461
                        obtain ⟨y489, c490⟩ : ∃ v, L443 a0 15 = v := ⟨_, rfl⟩
                        rw [c490] at p462
                        obtain ⟨v491, c492⟩ : ∃ v, I441 a0 12 = v := ⟨_, rfl⟩
                        rw [c492] at p463
                        obtain ⟨v493, c494⟩ : ∃ v, I441 a0 8 = v := ⟨_, rfl⟩
                        have b495 := iv15_8 hS449.1 ta0 c494
                        rw [c494] at p464
                        replace hF := hF.neg (by exact om_10ed11b5 p454)
                        replace hP := hP.neg (by exact om_10ed11b5 p454)
                        replace hF := hF.neg (by exact om_6dc00766 h438 h440 p455 p456)
                        replace hP := hP.neg (by exact om_6dc00766 h438 h440 p455 p456)
                        refine q_iast dX12_readAlp_78 (kR53 hS449.1 ta309) (ti_in (nR53 hS449.1 ta309) (by exact om_402918db h304 h385) (by exact om_a7c15354 h304 h385)) hS449 ta309 (iokF rfl) rfl (by rfl) ?_
                        intro I496 hS497 e499 f498
                        have c500 : I496 a1 0 = v29 := (f498 _ _ (fun q => by have z := ta1; rw [q.1, ta309] at z; exact absurd z (by decide))).trans c450
                        have c501 : I496 a1 1 = v33 := (f498 _ _ (fun q => by have z := ta1; rw [q.1, ta309] at z; exact absurd z (by decide))).trans c451
                        have c502 : I496 a0 13 = v479 := (f498 _ _ (fun q => by have z := ta0; rw [q.1, ta309] at z; exact absurd z (by decide))).trans c480
                        have c503 : I496 a0 9 = v481 := (f498 _ _ (fun q => by have z := ta0; rw [q.1, ta309] at z; exact absurd z (by decide))).trans c482
                        have c504 : I496 a0 10 = v484 := (f498 _ _ (fun q => by have z := ta0; rw [q.1, ta309] at z; exact absurd z (by decide))).trans c485
                        have c505 : I496 a0 11 = v487 := (f498 _ _ (fun q => by have z := ta0; rw [q.1, ta309] at z; exact absurd z (by decide))).trans c488
                        have c506 : I496 a0 12 = v491 := (f498 _ _ (fun q => by have z := ta0; rw [q.1, ta309] at z; exact absurd z (by decide))).trans c492
                        have c507 : I496 a0 8 = v493 := (f498 _ _ (fun q => by have z := ta0; rw [q.1, ta309] at z; exact absurd z (by decide))).trans c494
                        have hO508 : FrO 14 a1 T I0 I496 := hO452.put f498 ta309 (Or.inl (by decide))
                        have hM509 : NmM I496 R0 L443 a1 gQ := NmM.kp1 hM478 f498 ta309 rfl rfl hS449.1 ta1
                        refine q_iincE dX12_readAlp_79 rfl (by decide) (by decide) (by intro j1 j2; exact om_ffa31f14 h304 h385) ?_
                        intro v510 h511
                        refine tr_goto 48 dX12_readAlp_82 (by decide) ?_
                        refine tr_iload_n dX12_readAlp_48 rfl ?_
                        refine q_iconst dX12_readAlp_49 (by decide) ?_
                        intro v512 h513
                        refine q_icmp_ge 85 dX12_readAlp_50 (by decide) (fun h514 => ?_) (fun h514 => ?_)
                        · skip
                          exfalso; exact om_1de0d0d9 h304 h385 h511 h513 h514
                        · skip
                          refine tr_iload_n dX12_readAlp_53 rfl ?_
                          refine q_if_le 63 dX12_readAlp_54 (by decide) (fun h515 => ?_) (fun h515 => ?_)
                          · skip
                            exfalso; exact om_38ece8a0 h304 h385 h511 h515
                          · skip
                            refine tr_aload_n dX12_readAlp_57 rfl ?_
                            refine q_bipush dX12_readAlp_58 (by decide +kernel) ?_
                            intro v516 h517
                            refine q_callVv hE (M' := mX12_needsSign) (as := [_]) dX12_readAlp_60 lk12_257 inX12_needsSign seX12_needsSign myX12_needsSign (by decide) ⟨by decide, by decide⟩ rfl (kR15 hS497.1 ta0) (Nat.le_of_ble_eq_true rfl) rfl rfl (by decide) (by decide) (fk_X12_needsSign hS497.1 (gB) ((tkN gB (tkN gB (tkN gB (tkN gB (tkN gB (tkN gB (tkN gB (tkN gB (tkN gB gs)))))))))) ta0 (TxA.kp hT hS497 ta0 rfl rfl rfl (by decide +kernel) (by decide +kernel)) (by (try rw [c503]); first | done | with_reducible assumption | omega) (by (try rw [c503]); first | done | with_reducible assumption | omega) (by (try rw [c504]); first | done | with_reducible assumption | omega) (by (try rw [c505]); first | done | with_reducible assumption | omega) (by (try rw [c490]); first | done | assumption) (by (try rw [c506]); first | done | assumption) (by (try rw [c507]); first | done | assumption) (by (try rw [((hS497.cell ta0 (by decide +kernel)).trans c26)]); first | done | with_reducible assumption | omega) (by first | done | with_reducible assumption | exact om_00f2e567 h517)) ?_
                            rintro cn' K' N' I518 R519 L520 ⟨rfl, rfl, rfl, rfl, g521, dj524, -⟩
                            have hM525 : NmM I518 R0 L443 a1 gQ := NmM.kpS hM509 g521 hS497.1 ta1 (by decide +kernel) (by decide +kernel)
                            have hS526 := hS497.tr g521 (by decide +kernel) (by decide +kernel)
                            have c527 : I518 a1 0 = v29 := (g521.cell ta1 (by decide +kernel)).trans c500
                            have c528 : I518 a1 1 = v33 := (g521.cell ta1 (by decide +kernel)).trans c501
                            have hO529 : FrO 14 a1 T I0 I518 := hO508.st g521 (by decide +kernel)
                            rcases dj524 with ⟨p530, p531, p532, p533, p534, p535, p536, p537, p538, gl539, -⟩ | ⟨p540, p541, p542, p543, -⟩
                            · skip
                              have hL544 := hL477.tr gl539 (by decide +kernel)
                              have hM545 : NmM I518 R0 L520 a1 gQ := NmM.kpL hM525 gl539 hS526.1 ta1 (by decide +kernel)
                              obtain ⟨v546, c547⟩ : ∃ v, I518 a0 13 = v := ⟨_, rfl⟩
                              rw [c547] at p531
                              rw [c502] at p531
                              obtain ⟨v548, c549⟩ : ∃ v, I518 a0 9 = v := ⟨_, rfl⟩
                              have b550 := iv15_9 hS526.1 ta0 c549
                              rw [c549] at p532
                              rw [c549] at p533
                              obtain ⟨v551, c552⟩ : ∃ v, I518 a0 10 = v := ⟨_, rfl⟩
                              have b553 := iv15_10 hS526.1 ta0 c552
                              rw [c552] at p534
                              obtain ⟨v554, c555⟩ : ∃ v, I518 a0 11 = v := ⟨_, rfl⟩
                              rw [c555] at p535
                              obtain ⟨y556, c557⟩ : ∃ v, L520 a0 15 = v := ⟨_, rfl⟩
                              rw [c557] at p536
                              obtain ⟨v558, c559⟩ : ∃ v, I518 a0 12 = v := ⟨_, rfl⟩
                              rw [c559] at p537
                              obtain ⟨v560, c561⟩ : ∃ v, I518 a0 8 = v := ⟨_, rfl⟩
                              have b562 := iv15_8 hS526.1 ta0 c561
                              rw [c561] at p538
                              replace hF := hF.neg (by exact om_b0959078 h517 p530)
                              replace hP := hP.neg (by exact om_b0959078 h517 p530)
                              refine tr_aload_n dX12_readAlp_63 rfl ?_
                              refine tr_getR dX12_readAlp_64 fl12_188 (kR15 hS526.1 ta0) d2 ?_
                              refine tr_getR dX12_readAlp_67 fl12_260 (kR14 hS526.1 ta1) d310 ?_
                              refine tr_iload_n dX12_readAlp_70 rfl ?_
                              refine tr_aload_n dX12_readAlp_71 rfl ?_
                              refine q_iconst dX12_readAlp_72 (by decide) ?_
                              intro v563 h564
                              refine q_bipush dX12_readAlp_73 (by decide +kernel) ?_
                              intro v565 h566
                              refine q_callVi hE (M' := mX12_readWhole) (as := [_, _]) dX12_readAlp_75 lk12_161 inX12_readWhole seX12_readWhole myX12_readWhole (by decide) ⟨by decide, by decide⟩ rfl (kR15 hS526.1 ta0) (Nat.le_of_ble_eq_true rfl) rfl rfl (by decide) (by decide) (fk_X12_readWhole hS526.1 (gB) ((tkN gB (tkN gB (tkN gB (tkN gB (tkN gB (tkN gB (tkN gB (tkN gB (tkN gB (tkN gB gs))))))))))) ta0 (TxA.kp hT hS526 ta0 rfl rfl rfl (by decide +kernel) (by decide +kernel)) (by (try rw [c549]); first | done | with_reducible assumption | omega) (by (try rw [c549]); first | done | with_reducible assumption | omega) (by (try rw [c552]); first | done | with_reducible assumption | omega) (by (try rw [c555]); first | done | with_reducible assumption | omega) (by (try rw [c557]); first | done | assumption) (by (try rw [c559]); first | done | assumption) (by (try rw [c561]); first | done | assumption) (by (try rw [((hS526.cell ta0 (by decide +kernel)).trans c26)]); first | done | with_reducible assumption | omega)) ?_
                              rintro v572 cn' K' N' I567 R568 L569 ⟨rfl, rfl, rfl, rfl, g570, dj573, -⟩
                              have hM574 : NmM I567 R0 L520 a1 gQ := NmM.kpS hM545 g570 hS526.1 ta1 (by decide +kernel) (by decide +kernel)
                              have hS575 := hS526.tr g570 (by decide +kernel) (by decide +kernel)
                              have c576 : I567 a1 0 = v29 := (g570.cell ta1 (by decide +kernel)).trans c527
                              have c577 : I567 a1 1 = v33 := (g570.cell ta1 (by decide +kernel)).trans c528
                              have hO578 : FrO 14 a1 T I0 I567 := hO529.st g570 (by decide +kernel)
                              rcases dj573 with ⟨p579, p580, p581, p582, p583, p584, p585, p586, p587, p588, p589, p590, gl591, -⟩ | ⟨p592, p593, p594, p595, p596, -⟩ | ⟨p597, p598, p599, p600, p601, p602, -⟩
                              · skip
                                have hL603 := hL544.tr gl591 (by decide +kernel)
                                have hM604 : NmM I567 R0 L569 a1 gQ := NmM.kpL hM574 gl591 hS575.1 ta1 (by decide +kernel)
                                obtain ⟨v605, c606⟩ : ∃ v, I567 a0 13 = v := ⟨_, rfl⟩
                                rw [c606] at p583
                                rw [c547] at p583
                                obtain ⟨v607, c608⟩ : ∃ v, I567 a0 9 = v := ⟨_, rfl⟩
                                have b609 := iv15_9 hS575.1 ta0 c608
                                rw [c608] at p584
                                rw [c608] at p585
                                obtain ⟨v610, c611⟩ : ∃ v, I567 a0 10 = v := ⟨_, rfl⟩
                                have b612 := iv15_10 hS575.1 ta0 c611
                                rw [c611] at p586
                                obtain ⟨v613, c614⟩ : ∃ v, I567 a0 11 = v := ⟨_, rfl⟩
                                rw [c614] at p587
                                obtain ⟨y615, c616⟩ : ∃ v, L569 a0 15 = v := ⟨_, rfl⟩
                                rw [c616] at p588
                                obtain ⟨v617, c618⟩ : ∃ v, I567 a0 12 = v := ⟨_, rfl⟩
                                rw [c618] at p589
                                obtain ⟨v619, c620⟩ : ∃ v, I567 a0 8 = v := ⟨_, rfl⟩
                                have b621 := iv15_8 hS575.1 ta0 c620
                                rw [c620] at p590
                                replace hF := hF.neg (by exact om_10ed11b5 p580)
                                replace hP := hP.neg (by exact om_10ed11b5 p580)
                                replace hF := hF.neg (by exact om_6dc00766 h564 h566 p581 p582)
                                replace hP := hP.neg (by exact om_6dc00766 h564 h566 p581 p582)
                                refine q_iast dX12_readAlp_78 (kR53 hS575.1 ta309) (ti_in (nR53 hS575.1 ta309) (by exact om_70533a47 h304 h385 h511) (by exact om_00d01f83 h304 h385 h511)) hS575 ta309 (iokF rfl) rfl (by rfl) ?_
                                intro I622 hS623 e625 f624
                                have c626 : I622 a1 0 = v29 := (f624 _ _ (fun q => by have z := ta1; rw [q.1, ta309] at z; exact absurd z (by decide))).trans c576
                                have c627 : I622 a1 1 = v33 := (f624 _ _ (fun q => by have z := ta1; rw [q.1, ta309] at z; exact absurd z (by decide))).trans c577
                                have c628 : I622 a0 13 = v605 := (f624 _ _ (fun q => by have z := ta0; rw [q.1, ta309] at z; exact absurd z (by decide))).trans c606
                                have c629 : I622 a0 9 = v607 := (f624 _ _ (fun q => by have z := ta0; rw [q.1, ta309] at z; exact absurd z (by decide))).trans c608
                                have c630 : I622 a0 10 = v610 := (f624 _ _ (fun q => by have z := ta0; rw [q.1, ta309] at z; exact absurd z (by decide))).trans c611
                                have c631 : I622 a0 11 = v613 := (f624 _ _ (fun q => by have z := ta0; rw [q.1, ta309] at z; exact absurd z (by decide))).trans c614
                                have c632 : I622 a0 12 = v617 := (f624 _ _ (fun q => by have z := ta0; rw [q.1, ta309] at z; exact absurd z (by decide))).trans c618
                                have c633 : I622 a0 8 = v619 := (f624 _ _ (fun q => by have z := ta0; rw [q.1, ta309] at z; exact absurd z (by decide))).trans c620
                                have hO634 : FrO 14 a1 T I0 I622 := hO578.put f624 ta309 (Or.inl (by decide))
                                have hM635 : NmM I622 R0 L569 a1 gQ := NmM.kp1 hM604 f624 ta309 rfl rfl hS575.1 ta1
                                refine q_iincE dX12_readAlp_79 rfl (by decide) (by decide) (by intro j1 j2; exact om_c222afaf h304 h385 h511) ?_
                                intro v636 h637
                                refine tr_goto 48 dX12_readAlp_82 (by decide) ?_
                                refine tr_iload_n dX12_readAlp_48 rfl ?_
                                refine q_iconst dX12_readAlp_49 (by decide) ?_
                                intro v638 h639
                                refine q_icmp_ge 85 dX12_readAlp_50 (by decide) (fun h640 => ?_) (fun h640 => ?_)
                                · skip
                                  exfalso; exact om_977367b2 h304 h385 h511 h637 h639 h640
                                · skip
                                  refine tr_iload_n dX12_readAlp_53 rfl ?_
                                  refine q_if_le 63 dX12_readAlp_54 (by decide) (fun h641 => ?_) (fun h641 => ?_)
                                  · skip
                                    exfalso; exact om_9780174a h304 h385 h511 h637 h641
                                  · skip
                                    refine tr_aload_n dX12_readAlp_57 rfl ?_
                                    refine q_bipush dX12_readAlp_58 (by decide +kernel) ?_
                                    intro v642 h643
                                    refine q_callVv hE (M' := mX12_needsSign) (as := [_]) dX12_readAlp_60 lk12_257 inX12_needsSign seX12_needsSign myX12_needsSign (by decide) ⟨by decide, by decide⟩ rfl (kR15 hS623.1 ta0) (Nat.le_of_ble_eq_true rfl) rfl rfl (by decide) (by decide) (fk_X12_needsSign hS623.1 (gB) ((tkN gB (tkN gB (tkN gB (tkN gB (tkN gB (tkN gB (tkN gB (tkN gB (tkN gB (tkN gB (tkN gB gs)))))))))))) ta0 (TxA.kp hT hS623 ta0 rfl rfl rfl (by decide +kernel) (by decide +kernel)) (by (try rw [c629]); first | done | with_reducible assumption | omega) (by (try rw [c629]); first | done | with_reducible assumption | omega) (by (try rw [c630]); first | done | with_reducible assumption | omega) (by (try rw [c631]); first | done | with_reducible assumption | omega) (by (try rw [c616]); first | done | assumption) (by (try rw [c632]); first | done | assumption) (by (try rw [c633]); first | done | assumption) (by (try rw [((hS623.cell ta0 (by decide +kernel)).trans c26)]); first | done | with_reducible assumption | omega) (by first | done | with_reducible assumption | exact om_00f2e567 h643)) ?_
                                    rintro cn' K' N' I644 R645 L646 ⟨rfl, rfl, rfl, rfl, g647, dj650, -⟩
                                    have hM651 : NmM I644 R0 L569 a1 gQ := NmM.kpS hM635 g647 hS623.1 ta1 (by decide +kernel) (by decide +kernel)
                                    have hS652 := hS623.tr g647 (by decide +kernel) (by decide +kernel)
                                    have c653 : I644 a1 0 = v29 := (g647.cell ta1 (by decide +kernel)).trans c626
                                    have c654 : I644 a1 1 = v33 := (g647.cell ta1 (by decide +kernel)).trans c627
                                    have hO655 : FrO 14 a1 T I0 I644 := hO634.st g647 (by decide +kernel)
                                    rcases dj650 with ⟨p656, p657, p658, p659, p660, p661, p662, p663, p664, gl665, -⟩ | ⟨p666, p667, p668, p669, -⟩
                                    · skip
                                      have hL670 := hL603.tr gl665 (by decide +kernel)
                                      have hM671 : NmM I644 R0 L646 a1 gQ := NmM.kpL hM651 gl665 hS652.1 ta1 (by decide +kernel)
                                      obtain ⟨v672, c673⟩ : ∃ v, I644 a0 13 = v := ⟨_, rfl⟩
                                      rw [c673] at p657
                                      rw [c628] at p657
                                      obtain ⟨v674, c675⟩ : ∃ v, I644 a0 9 = v := ⟨_, rfl⟩
                                      have b676 := iv15_9 hS652.1 ta0 c675
                                      rw [c675] at p658
                                      rw [c675] at p659
                                      obtain ⟨v677, c678⟩ : ∃ v, I644 a0 10 = v := ⟨_, rfl⟩
                                      have b679 := iv15_10 hS652.1 ta0 c678
                                      rw [c678] at p660
                                      obtain ⟨v680, c681⟩ : ∃ v, I644 a0 11 = v := ⟨_, rfl⟩
                                      rw [c681] at p661
                                      obtain ⟨y682, c683⟩ : ∃ v, L646 a0 15 = v := ⟨_, rfl⟩
                                      rw [c683] at p662
                                      obtain ⟨v684, c685⟩ : ∃ v, I644 a0 12 = v := ⟨_, rfl⟩
                                      rw [c685] at p663
                                      obtain ⟨v686, c687⟩ : ∃ v, I644 a0 8 = v := ⟨_, rfl⟩
                                      have b688 := iv15_8 hS652.1 ta0 c687
                                      rw [c687] at p664
                                      replace hF := hF.neg (by exact om_b0959078 h643 p656)
                                      replace hP := hP.neg (by exact om_b0959078 h643 p656)
                                      refine tr_aload_n dX12_readAlp_63 rfl ?_
                                      refine tr_getR dX12_readAlp_64 fl12_188 (kR15 hS652.1 ta0) d2 ?_
                                      refine tr_getR dX12_readAlp_67 fl12_260 (kR14 hS652.1 ta1) d310 ?_
                                      refine tr_iload_n dX12_readAlp_70 rfl ?_
                                      refine tr_aload_n dX12_readAlp_71 rfl ?_
                                      refine q_iconst dX12_readAlp_72 (by decide) ?_
                                      intro v689 h690
                                      refine q_bipush dX12_readAlp_73 (by decide +kernel) ?_
                                      intro v691 h692
                                      refine q_callVi hE (M' := mX12_readWhole) (as := [_, _]) dX12_readAlp_75 lk12_161 inX12_readWhole seX12_readWhole myX12_readWhole (by decide) ⟨by decide, by decide⟩ rfl (kR15 hS652.1 ta0) (Nat.le_of_ble_eq_true rfl) rfl rfl (by decide) (by decide) (fk_X12_readWhole hS652.1 (gB) ((tkN gB (tkN gB (tkN gB (tkN gB (tkN gB (tkN gB (tkN gB (tkN gB (tkN gB (tkN gB (tkN gB (tkN gB gs))))))))))))) ta0 (TxA.kp hT hS652 ta0 rfl rfl rfl (by decide +kernel) (by decide +kernel)) (by (try rw [c675]); first | done | with_reducible assumption | omega) (by (try rw [c675]); first | done | with_reducible assumption | omega) (by (try rw [c678]); first | done | with_reducible assumption | omega) (by (try rw [c681]); first | done | with_reducible assumption | omega) (by (try rw [c683]); first | done | assumption) (by (try rw [c685]); first | done | assumption) (by (try rw [c687]); first | done | assumption) (by (try rw [((hS652.cell ta0 (by decide +kernel)).trans c26)]); first | done | with_reducible assumption | omega)) ?_
                                      rintro v698 cn' K' N' I693 R694 L695 ⟨rfl, rfl, rfl, rfl, g696, dj699, -⟩
                                      have hM700 : NmM I693 R0 L646 a1 gQ := NmM.kpS hM671 g696 hS652.1 ta1 (by decide +kernel) (by decide +kernel)
                                      have hS701 := hS652.tr g696 (by decide +kernel) (by decide +kernel)
                                      have c702 : I693 a1 0 = v29 := (g696.cell ta1 (by decide +kernel)).trans c653
                                      have c703 : I693 a1 1 = v33 := (g696.cell ta1 (by decide +kernel)).trans c654
                                      have hO704 : FrO 14 a1 T I0 I693 := hO655.st g696 (by decide +kernel)
                                      rcases dj699 with ⟨p705, p706, p707, p708, p709, p710, p711, p712, p713, p714, p715, p716, gl717, -⟩ | ⟨p718, p719, p720, p721, p722, -⟩ | ⟨p723, p724, p725, p726, p727, p728, -⟩
                                      · skip
                                        have hL729 := hL670.tr gl717 (by decide +kernel)
                                        have hM730 : NmM I693 R0 L695 a1 gQ := NmM.kpL hM700 gl717 hS701.1 ta1 (by decide +kernel)
                                        obtain ⟨v731, c732⟩ : ∃ v, I693 a0 13 = v := ⟨_, rfl⟩
                                        rw [c732] at p709
                                        rw [c673] at p709
                                        obtain ⟨v733, c734⟩ : ∃ v, I693 a0 9 = v := ⟨_, rfl⟩
                                        have b735 := iv15_9 hS701.1 ta0 c734
                                        rw [c734] at p710
                                        rw [c734] at p711
                                        obtain ⟨v736, c737⟩ : ∃ v, I693 a0 10 = v := ⟨_, rfl⟩
                                        have b738 := iv15_10 hS701.1 ta0 c737
                                        rw [c737] at p712
                                        obtain ⟨v739, c740⟩ : ∃ v, I693 a0 11 = v := ⟨_, rfl⟩
                                        rw [c740] at p713
                                        obtain ⟨y741, c742⟩ : ∃ v, L695 a0 15 = v := ⟨_, rfl⟩
                                        rw [c742] at p714
                                        obtain ⟨v743, c744⟩ : ∃ v, I693 a0 12 = v := ⟨_, rfl⟩
                                        rw [c744] at p715
                                        obtain ⟨v745, c746⟩ : ∃ v, I693 a0 8 = v := ⟨_, rfl⟩
                                        have b747 := iv15_8 hS701.1 ta0 c746
                                        rw [c746] at p716
                                        replace hF := hF.neg (by exact om_10ed11b5 p706)
                                        replace hP := hP.neg (by exact om_10ed11b5 p706)
                                        replace hF := hF.neg (by exact om_6dc00766 h690 h692 p707 p708)
                                        replace hP := hP.neg (by exact om_6dc00766 h690 h692 p707 p708)
                                        refine q_iast dX12_readAlp_78 (kR53 hS701.1 ta309) (ti_in (nR53 hS701.1 ta309) (by exact om_5b4fddb5 h304 h385 h511 h637) (by exact om_7bfe2d13 h304 h385 h511 h637)) hS701 ta309 (iokF rfl) rfl (by rfl) ?_
                                        intro I748 hS749 e751 f750
                                        have c752 : I748 a1 0 = v29 := (f750 _ _ (fun q => by have z := ta1; rw [q.1, ta309] at z; exact absurd z (by decide))).trans c702
                                        have c753 : I748 a1 1 = v33 := (f750 _ _ (fun q => by have z := ta1; rw [q.1, ta309] at z; exact absurd z (by decide))).trans c703
                                        have c754 : I748 a0 13 = v731 := (f750 _ _ (fun q => by have z := ta0; rw [q.1, ta309] at z; exact absurd z (by decide))).trans c732
                                        have c755 : I748 a0 9 = v733 := (f750 _ _ (fun q => by have z := ta0; rw [q.1, ta309] at z; exact absurd z (by decide))).trans c734
                                        have c756 : I748 a0 10 = v736 := (f750 _ _ (fun q => by have z := ta0; rw [q.1, ta309] at z; exact absurd z (by decide))).trans c737
                                        have c757 : I748 a0 11 = v739 := (f750 _ _ (fun q => by have z := ta0; rw [q.1, ta309] at z; exact absurd z (by decide))).trans c740
                                        have c758 : I748 a0 12 = v743 := (f750 _ _ (fun q => by have z := ta0; rw [q.1, ta309] at z; exact absurd z (by decide))).trans c744
                                        have c759 : I748 a0 8 = v745 := (f750 _ _ (fun q => by have z := ta0; rw [q.1, ta309] at z; exact absurd z (by decide))).trans c746
                                        have hO760 : FrO 14 a1 T I0 I748 := hO704.put f750 ta309 (Or.inl (by decide))
                                        have hM761 : NmM I748 R0 L695 a1 gQ := NmM.kp1 hM730 f750 ta309 rfl rfl hS701.1 ta1
                                        refine q_iincE dX12_readAlp_79 rfl (by decide) (by decide) (by intro j1 j2; exact om_3ce631fb h304 h385 h511 h637) ?_
                                        intro v762 h763
                                        refine tr_goto 48 dX12_readAlp_82 (by decide) ?_
                                        refine tr_iload_n dX12_readAlp_48 rfl ?_
                                        refine q_iconst dX12_readAlp_49 (by decide) ?_
                                        intro v764 h765
                                        refine q_icmp_ge 85 dX12_readAlp_50 (by decide) (fun h766 => ?_) (fun h766 => ?_)
                                        · skip
                                          exfalso; exact om_20275ef3 h304 h385 h511 h637 h763 h765 h766
                                        · skip
                                          refine tr_iload_n dX12_readAlp_53 rfl ?_
                                          refine q_if_le 63 dX12_readAlp_54 (by decide) (fun h767 => ?_) (fun h767 => ?_)
                                          · skip
                                            exfalso; exact om_f85ad084 h304 h385 h511 h637 h763 h767
                                          · skip
                                            refine tr_aload_n dX12_readAlp_57 rfl ?_
                                            refine q_bipush dX12_readAlp_58 (by decide +kernel) ?_
                                            intro v768 h769
                                            refine q_callVv hE (M' := mX12_needsSign) (as := [_]) dX12_readAlp_60 lk12_257 inX12_needsSign seX12_needsSign myX12_needsSign (by decide) ⟨by decide, by decide⟩ rfl (kR15 hS749.1 ta0) (Nat.le_of_ble_eq_true rfl) rfl rfl (by decide) (by decide) (fk_X12_needsSign hS749.1 (gB) ((tkN gB (tkN gB (tkN gB (tkN gB (tkN gB (tkN gB (tkN gB (tkN gB (tkN gB (tkN gB (tkN gB (tkN gB (tkN gB gs)))))))))))))) ta0 (TxA.kp hT hS749 ta0 rfl rfl rfl (by decide +kernel) (by decide +kernel)) (by (try rw [c755]); first | done | with_reducible assumption | omega) (by (try rw [c755]); first | done | with_reducible assumption | omega) (by (try rw [c756]); first | done | with_reducible assumption | omega) (by (try rw [c757]); first | done | with_reducible assumption | omega) (by (try rw [c742]); first | done | assumption) (by (try rw [c758]); first | done | assumption) (by (try rw [c759]); first | done | assumption) (by (try rw [((hS749.cell ta0 (by decide +kernel)).trans c26)]); first | done | with_reducible assumption | omega) (by first | done | with_reducible assumption | exact om_00f2e567 h769)) ?_
                                            rintro cn' K' N' I770 R771 L772 ⟨rfl, rfl, rfl, rfl, g773, dj776, -⟩
                                            have hM777 : NmM I770 R0 L695 a1 gQ := NmM.kpS hM761 g773 hS749.1 ta1 (by decide +kernel) (by decide +kernel)
                                            have hS778 := hS749.tr g773 (by decide +kernel) (by decide +kernel)
                                            have c779 : I770 a1 0 = v29 := (g773.cell ta1 (by decide +kernel)).trans c752
                                            have c780 : I770 a1 1 = v33 := (g773.cell ta1 (by decide +kernel)).trans c753
                                            have hO781 : FrO 14 a1 T I0 I770 := hO760.st g773 (by decide +kernel)
                                            rcases dj776 with ⟨p782, p783, p784, p785, p786, p787, p788, p789, p790, gl791, -⟩ | ⟨p792, p793, p794, p795, -⟩
                                            · skip
                                              have hL796 := hL729.tr gl791 (by decide +kernel)
                                              have hM797 : NmM I770 R0 L772 a1 gQ := NmM.kpL hM777 gl791 hS778.1 ta1 (by decide +kernel)
                                              obtain ⟨v798, c799⟩ : ∃ v, I770 a0 13 = v := ⟨_, rfl⟩
                                              rw [c799] at p783
                                              rw [c754] at p783
                                              obtain ⟨v800, c801⟩ : ∃ v, I770 a0 9 = v := ⟨_, rfl⟩
                                              have b802 := iv15_9 hS778.1 ta0 c801
                                              rw [c801] at p784
                                              rw [c801] at p785
                                              obtain ⟨v803, c804⟩ : ∃ v, I770 a0 10 = v := ⟨_, rfl⟩
                                              have b805 := iv15_10 hS778.1 ta0 c804
                                              rw [c804] at p786
                                              obtain ⟨v806, c807⟩ : ∃ v, I770 a0 11 = v := ⟨_, rfl⟩
                                              rw [c807] at p787
                                              obtain ⟨y808, c809⟩ : ∃ v, L772 a0 15 = v := ⟨_, rfl⟩
                                              rw [c809] at p788
                                              obtain ⟨v810, c811⟩ : ∃ v, I770 a0 12 = v := ⟨_, rfl⟩
                                              rw [c811] at p789
                                              obtain ⟨v812, c813⟩ : ∃ v, I770 a0 8 = v := ⟨_, rfl⟩
                                              have b814 := iv15_8 hS778.1 ta0 c813
                                              rw [c813] at p790
                                              replace hF := hF.neg (by exact om_b0959078 h769 p782)
                                              replace hP := hP.neg (by exact om_b0959078 h769 p782)
                                              refine tr_aload_n dX12_readAlp_63 rfl ?_
                                              refine tr_getR dX12_readAlp_64 fl12_188 (kR15 hS778.1 ta0) d2 ?_
                                              refine tr_getR dX12_readAlp_67 fl12_260 (kR14 hS778.1 ta1) d310 ?_
                                              refine tr_iload_n dX12_readAlp_70 rfl ?_
                                              refine tr_aload_n dX12_readAlp_71 rfl ?_
                                              refine q_iconst dX12_readAlp_72 (by decide) ?_
                                              intro v815 h816
                                              refine q_bipush dX12_readAlp_73 (by decide +kernel) ?_
                                              intro v817 h818
                                              refine q_callVi hE (M' := mX12_readWhole) (as := [_, _]) dX12_readAlp_75 lk12_161 inX12_readWhole seX12_readWhole myX12_readWhole (by decide) ⟨by decide, by decide⟩ rfl (kR15 hS778.1 ta0) (Nat.le_of_ble_eq_true rfl) rfl rfl (by decide) (by decide) (fk_X12_readWhole hS778.1 (gB) ((tkN gB (tkN gB (tkN gB (tkN gB (tkN gB (tkN gB (tkN gB (tkN gB (tkN gB (tkN gB (tkN gB (tkN gB (tkN gB (tkN gB gs))))))))))))))) ta0 (TxA.kp hT hS778 ta0 rfl rfl rfl (by decide +kernel) (by decide +kernel)) (by (try rw [c801]); first | done | with_reducible assumption | omega) (by (try rw [c801]); first | done | with_reducible assumption | omega) (by (try rw [c804]); first | done | with_reducible assumption | omega) (by (try rw [c807]); first | done | with_reducible assumption | omega) (by (try rw [c809]); first | done | assumption) (by (try rw [c811]); first | done | assumption) (by (try rw [c813]); first | done | assumption) (by (try rw [((hS778.cell ta0 (by decide +kernel)).trans c26)]); first | done | with_reducible assumption | omega)) ?_
                                              rintro v824 cn' K' N' I819 R820 L821 ⟨rfl, rfl, rfl, rfl, g822, dj825, -⟩
                                              have hM826 : NmM I819 R0 L772 a1 gQ := NmM.kpS hM797 g822 hS778.1 ta1 (by decide +kernel) (by decide +kernel)
                                              have hS827 := hS778.tr g822 (by decide +kernel) (by decide +kernel)
                                              have c828 : I819 a1 0 = v29 := (g822.cell ta1 (by decide +kernel)).trans c779
                                              have c829 : I819 a1 1 = v33 := (g822.cell ta1 (by decide +kernel)).trans c780
                                              have hO830 : FrO 14 a1 T I0 I819 := hO781.st g822 (by decide +kernel)
                                              rcases dj825 with ⟨p831, p832, p833, p834, p835, p836, p837, p838, p839, p840, p841, p842, gl843, -⟩ | ⟨p844, p845, p846, p847, p848, -⟩ | ⟨p849, p850, p851, p852, p853, p854, -⟩
                                              · skip
                                                have hL855 := hL796.tr gl843 (by decide +kernel)
                                                have hM856 : NmM I819 R0 L821 a1 gQ := NmM.kpL hM826 gl843 hS827.1 ta1 (by decide +kernel)
                                                obtain ⟨v857, c858⟩ : ∃ v, I819 a0 13 = v := ⟨_, rfl⟩
                                                rw [c858] at p835
                                                rw [c799] at p835
                                                obtain ⟨v859, c860⟩ : ∃ v, I819 a0 9 = v := ⟨_, rfl⟩
                                                have b861 := iv15_9 hS827.1 ta0 c860
                                                rw [c860] at p836
                                                rw [c860] at p837
                                                obtain ⟨v862, c863⟩ : ∃ v, I819 a0 10 = v := ⟨_, rfl⟩
                                                have b864 := iv15_10 hS827.1 ta0 c863
                                                rw [c863] at p838
                                                obtain ⟨v865, c866⟩ : ∃ v, I819 a0 11 = v := ⟨_, rfl⟩
                                                rw [c866] at p839
                                                obtain ⟨y867, c868⟩ : ∃ v, L821 a0 15 = v := ⟨_, rfl⟩
                                                rw [c868] at p840
                                                obtain ⟨v869, c870⟩ : ∃ v, I819 a0 12 = v := ⟨_, rfl⟩
                                                rw [c870] at p841
                                                obtain ⟨v871, c872⟩ : ∃ v, I819 a0 8 = v := ⟨_, rfl⟩
                                                have b873 := iv15_8 hS827.1 ta0 c872
                                                rw [c872] at p842
                                                replace hF := hF.neg (by exact om_10ed11b5 p832)
                                                replace hP := hP.neg (by exact om_10ed11b5 p832)
                                                replace hF := hF.neg (by exact om_6dc00766 h816 h818 p833 p834)
                                                replace hP := hP.neg (by exact om_6dc00766 h816 h818 p833 p834)
                                                refine q_iast dX12_readAlp_78 (kR53 hS827.1 ta309) (ti_in (nR53 hS827.1 ta309) (by exact om_ba969cb0 h304 h385 h511 h637 h763) (by exact om_8a996ee0 h304 h385 h511 h637 h763)) hS827 ta309 (iokF rfl) rfl (by rfl) ?_
                                                intro I874 hS875 e877 f876
                                                have c878 : I874 a1 0 = v29 := (f876 _ _ (fun q => by have z := ta1; rw [q.1, ta309] at z; exact absurd z (by decide))).trans c828
                                                have c879 : I874 a1 1 = v33 := (f876 _ _ (fun q => by have z := ta1; rw [q.1, ta309] at z; exact absurd z (by decide))).trans c829
                                                have c880 : I874 a0 13 = v857 := (f876 _ _ (fun q => by have z := ta0; rw [q.1, ta309] at z; exact absurd z (by decide))).trans c858
                                                have c881 : I874 a0 9 = v859 := (f876 _ _ (fun q => by have z := ta0; rw [q.1, ta309] at z; exact absurd z (by decide))).trans c860
                                                have c882 : I874 a0 10 = v862 := (f876 _ _ (fun q => by have z := ta0; rw [q.1, ta309] at z; exact absurd z (by decide))).trans c863
                                                have c883 : I874 a0 11 = v865 := (f876 _ _ (fun q => by have z := ta0; rw [q.1, ta309] at z; exact absurd z (by decide))).trans c866
                                                have c884 : I874 a0 12 = v869 := (f876 _ _ (fun q => by have z := ta0; rw [q.1, ta309] at z; exact absurd z (by decide))).trans c870
                                                have c885 : I874 a0 8 = v871 := (f876 _ _ (fun q => by have z := ta0; rw [q.1, ta309] at z; exact absurd z (by decide))).trans c872
                                                have hO886 : FrO 14 a1 T I0 I874 := hO830.put f876 ta309 (Or.inl (by decide))
                                                have hM887 : NmM I874 R0 L821 a1 gQ := NmM.kp1 hM856 f876 ta309 rfl rfl hS827.1 ta1
                                                refine q_iincE dX12_readAlp_79 rfl (by decide) (by decide) (by intro j1 j2; exact om_32d85275 h304 h385 h511 h637 h763) ?_
                                                intro v888 h889
                                                refine tr_goto 48 dX12_readAlp_82 (by decide) ?_
                                                refine tr_iload_n dX12_readAlp_48 rfl ?_
                                                refine q_iconst dX12_readAlp_49 (by decide) ?_
                                                intro v890 h891
                                                refine q_icmp_ge 85 dX12_readAlp_50 (by decide) (fun h892 => ?_) (fun h892 => ?_)
                                                · skip
                                                  refine tr_aload_n dX12_readAlp_85 rfl ?_
                                                  refine q_getI dX12_readAlp_86 fl12_99 (kR15 hS875.1 ta0) c881 ?_
                                                  refine q_iconst dX12_readAlp_89 (by decide) ?_
                                                  intro v893 h894
                                                  refine q_icmp_ne 94 dX12_readAlp_90 (by decide) (fun h895 => ?_) (fun h895 => ?_)
                                                  · skip
                                                    refine tr_aload_n dX12_readAlp_94 rfl ?_
                                                    refine tr_getR dX12_readAlp_95 fl12_188 (kR15 hS875.1 ta0) d2 ?_
                                                    refine tr_iload_n dX12_readAlp_98 rfl ?_
                                                    refine q_putX dX12_readAlp_99 fl12_192 (kR14 hS875.1 ta1) (Or.inl rfl) hS875 ta1 (by decide +kernel) (hS875.1.putM ta1 (by exact om_eb93d8a1 h118 h120 p133 p137 p138)) ?_
                                                    intro I896 hS897 e898 f899
                                                    have c900 : I896 a1 1 = v33 := (f899 _ _ (fun q => absurd q.2 (by decide))).trans c879
                                                    have c901 : I896 a0 13 = v857 := (f899 _ _ (fun q => absurd q.2 (by decide))).trans c880
                                                    have c902 : I896 a0 9 = v859 := (f899 _ _ (fun q => absurd q.2 (by decide))).trans c881
                                                    have c903 : I896 a0 10 = v862 := (f899 _ _ (fun q => absurd q.2 (by decide))).trans c882
                                                    have c904 : I896 a0 11 = v865 := (f899 _ _ (fun q => absurd q.2 (by decide))).trans c883
                                                    have c905 : I896 a0 12 = v869 := (f899 _ _ (fun q => absurd q.2 (by decide))).trans c884
                                                    have c906 : I896 a0 8 = v871 := (f899 _ _ (fun q => absurd q.2 (by decide))).trans c885
                                                    have hO907 : FrO 14 a1 T I0 I896 := hO886.put f899 ta1 (Or.inr rfl)
                                                    have hM908 : NmM I896 R0 L821 a1 gQ := NmM.kp1 hM887 f899 ta1 rfl rfl hS875.1 ta1
                                                    refine tr_aload_n dX12_readAlp_102 rfl ?_
                                                    refine tr_getR dX12_readAlp_103 fl12_188 (kR15 hS897.1 ta0) d2 ?_
                                                    refine tr_iload_n dX12_readAlp_106 rfl ?_
                                                    refine q_putI dX12_readAlp_107 fl12_263 (kR14 hS897.1 ta1) (Or.inl rfl) hS897 ta1 (by show (0 : Int) ≤ v196.toInt ∧ v196.toInt ≤ (4 : Int); exact om_99c4d7de h188 h190 p203 p207 p208) rfl (by decide +kernel) ?_
                                                    intro I909 hS910 e911 f912
                                                    have c913 : I909 a0 13 = v857 := (f912 _ _ (fun q => absurd q.2 (by decide))).trans c901
                                                    have c914 : I909 a0 9 = v859 := (f912 _ _ (fun q => absurd q.2 (by decide))).trans c902
                                                    have c915 : I909 a0 10 = v862 := (f912 _ _ (fun q => absurd q.2 (by decide))).trans c903
                                                    have c916 : I909 a0 11 = v865 := (f912 _ _ (fun q => absurd q.2 (by decide))).trans c904
                                                    have c917 : I909 a0 12 = v869 := (f912 _ _ (fun q => absurd q.2 (by decide))).trans c905
                                                    have c918 : I909 a0 8 = v871 := (f912 _ _ (fun q => absurd q.2 (by decide))).trans c906
                                                    have c919 : I909 a1 0 = v126 := (f912 _ _ (fun q => absurd q.2 (by decide))).trans e898
                                                    have hO920 : FrO 14 a1 T I0 I909 := hO907.put f912 ta1 (Or.inr rfl)
                                                    have hM921 : NmM I909 R0 L821 a1 gQ := NmM.kp1 hM908 f912 ta1 rfl rfl hS897.1 ta1
                                                    have eF := hF.eq
                                                    have eP := hP.eq
                                                    obtain ⟨v922, c923⟩ : ∃ v, I909 a0 14 = v := ⟨_, rfl⟩
                                                    exact tr_vret hZ dX12_readAlp_110 rfl (by decide) (by decide) ⟨rfl, rfl, rfl, rfl, rfl, hS910, (fun dr hd => (Option.some.inj (d2.symm.trans hd)) ▸ hO920), (Or.inl ⟨(by (try rw [w107]); first | done | with_reducible assumption | omega), (fun q0 z0 => by obtain rfl := Option.some.inj ((d2).symm.trans z0); (try rw [w107]); (try rw [c919]); first | done | with_reducible assumption | exact om_008feaf9 w108 p133), (fun q0 z0 => by obtain rfl := Option.some.inj ((d2).symm.trans z0); (try rw [w107]); (try rw [e911]); first | done | with_reducible assumption | exact om_008feaf9 w109 p203), (fun q0 z0 => by obtain rfl := Option.some.inj ((d2).symm.trans z0); (try rw [w107]); (try rw [((hS910.cell ta1 (by decide +kernel)).trans c38)]); first | done | with_reducible assumption | exact om_2757374c p40 w110), (fun q0 z0 => by obtain rfl := Option.some.inj ((d2).symm.trans z0); (try rw [w107]); (try rw [((hS910.cell ta1 (by decide +kernel)).trans c42)]); first | done | with_reducible assumption | exact om_2757374c p44 w111), (fun q0 z0 => by obtain rfl := Option.some.inj ((d2).symm.trans z0); (try rw [w107]); (try rw [((hS910.cell ta1 (by decide +kernel)).trans c46)]); first | done | with_reducible assumption | exact om_2757374c p48 w112), (fun q0 z0 => by obtain rfl := Option.some.inj ((d2).symm.trans z0); (try rw [w107]); (try rw [((hS910.cell ta1 (by decide +kernel)).trans c50)]); first | done | with_reducible assumption | exact om_2757374c p52 w113), (fun q0 z0 => by obtain rfl := Option.some.inj ((d2).symm.trans z0); (try rw [w107]); (try rw [((hS910.cell ta1 (by decide +kernel)).trans c54)]); first | done | with_reducible assumption | exact om_2757374c p56 w114), (fun q0 z0 => by obtain rfl := Option.some.inj ((d2).symm.trans z0); (try rw [w107]); (try rw [((hS910.cell ta1 (by decide +kernel)).trans c58)]); first | done | with_reducible assumption | exact om_2757374c p60 w116), (by (try rw [w107]); (try rw [c913]); (try rw [c65]); first | done | with_reducible assumption | exact om_4abbd0da p139 p209 p271 p331 p405 p457 p531 p583 p657 p709 p783 p835), (by (try rw [w107]); (try rw [c914]); first | done | with_reducible assumption | omega), (by (try rw [w107]); (try rw [c914]); first | done | with_reducible assumption | omega), (by (try rw [w107]); (try rw [c915]); first | done | with_reducible assumption | omega), (by (try rw [w107]); (try rw [c916]); first | done | with_reducible assumption | omega), (by (try rw [w107]); (try rw [c868]); first | done | assumption), (by (try rw [w107]); (try rw [c917]); first | done | assumption), (by (try rw [w107]); (try rw [c918]); first | done | assumption), hL855, (fun b hb => (Option.some.inj (d2.symm.trans hb)) ▸ NmM.ln (NmM.bd (k := srt gB gs) hM921 (by exact om_a1298bba pre18) (by exact om_c1f188f9 pre18)) rfl), trivial⟩), trivial⟩
                                                  · skip
                                                    exfalso; exact om_99cda0b7 p837 p836 b861.1 h894 h895
                                                · skip
                                                  exfalso; exact om_87efa96a h304 h385 h511 h637 h763 h889 h891 h892
                                              · skip
                                                obtain ⟨v924, c925⟩ : ∃ v, I819 a0 9 = v := ⟨_, rfl⟩
                                                have b926 := iv15_9 hS827.1 ta0 c925
                                                rw [c925] at p846
                                                obtain ⟨v927, c928⟩ : ∃ v, I819 a0 13 = v := ⟨_, rfl⟩
                                                rw [c928] at p847
                                                obtain ⟨v929, c930⟩ : ∃ v, I819 a0 14 = v := ⟨_, rfl⟩
                                                rw [c930] at p848
                                                replace hF := hF.pos (by exact om_73cc8e29 p845)
                                                replace hP := hP.pos (by exact om_73cc8e29 p845)
                                                refine q_iast dX12_readAlp_78 (kR53 hS827.1 ta309) (ti_in (nR53 hS827.1 ta309) (by exact om_ba969cb0 h304 h385 h511 h637 h763) (by exact om_8a996ee0 h304 h385 h511 h637 h763)) hS827 ta309 (iokF rfl) rfl (by rfl) ?_
                                                intro I931 hS932 e934 f933
                                                have c935 : I931 a1 0 = v29 := (f933 _ _ (fun q => by have z := ta1; rw [q.1, ta309] at z; exact absurd z (by decide))).trans c828
                                                have c936 : I931 a1 1 = v33 := (f933 _ _ (fun q => by have z := ta1; rw [q.1, ta309] at z; exact absurd z (by decide))).trans c829
                                                have c937 : I931 a0 9 = v924 := (f933 _ _ (fun q => by have z := ta0; rw [q.1, ta309] at z; exact absurd z (by decide))).trans c925
                                                have c938 : I931 a0 13 = v927 := (f933 _ _ (fun q => by have z := ta0; rw [q.1, ta309] at z; exact absurd z (by decide))).trans c928
                                                have c939 : I931 a0 14 = v929 := (f933 _ _ (fun q => by have z := ta0; rw [q.1, ta309] at z; exact absurd z (by decide))).trans c930
                                                have hO940 : FrO 14 a1 T I0 I931 := hO830.put f933 ta309 (Or.inl (by decide))
                                                refine q_iincE dX12_readAlp_79 rfl (by decide) (by decide) (by intro j1 j2; exact om_32d85275 h304 h385 h511 h637 h763) ?_
                                                intro v941 h942
                                                refine tr_goto 48 dX12_readAlp_82 (by decide) ?_
                                                refine sf_oA48_5 hE hZ hS932.1 (gB) ta0 (by exact om_797461a0 h304 h385 h511 h637 h763 h942) (by (try rw [c937]); first | done | with_reducible assumption | omega) ⟨_, d2⟩ rfl rfl rfl rfl ?_
                                                rintro I943 R944 L945 ⟨g946, p947, p948, p949, -⟩
                                                obtain rfl : R0 = R944 := funext fun a => funext fun j => (g946.2.2 a j (wm_no rfl)).symm
                                                have hS950 := hS932.tr g946 (by decide +kernel) (by decide +kernel)
                                                have c951 : I943 a1 0 = v29 := (g946.cell ta1 (by decide +kernel)).trans c935
                                                have c952 : I943 a1 1 = v33 := (g946.cell ta1 (by decide +kernel)).trans c936
                                                have c953 : I943 a0 9 = v924 := (g946.cell ta0 (by decide +kernel)).trans c937
                                                have c954 : I943 a0 13 = v927 := (g946.cell ta0 (by decide +kernel)).trans c938
                                                have c955 : I943 a0 14 = v929 := (g946.cell ta0 (by decide +kernel)).trans c939
                                                have hO956 : FrO 14 a1 T I0 I943 := hO940.st g946 (by decide +kernel)
                                                rw [c953] at p947
                                                rw [c954] at p948
                                                rw [c938] at p948
                                                rw [c955] at p949
                                                rw [c939] at p949
                                                have eF := hF.eq
                                                have eP := hP.eq
                                                obtain ⟨v957, c958⟩ : ∃ v, I943 a0 10 = v := ⟨_, rfl⟩
                                                have b959 := iv15_10 hS950.1 ta0 c958
                                                obtain ⟨v960, c961⟩ : ∃ v, I943 a0 11 = v := ⟨_, rfl⟩
                                                obtain ⟨y962, c963⟩ : ∃ v, L945 a0 15 = v := ⟨_, rfl⟩
                                                obtain ⟨v964, c965⟩ : ∃ v, I943 a0 12 = v := ⟨_, rfl⟩
                                                obtain ⟨v966, c967⟩ : ∃ v, I943 a0 8 = v := ⟨_, rfl⟩
                                                have b968 := iv15_8 hS950.1 ta0 c967
                                                exact ⟨rfl, rfl, rfl, rfl, rfl, hS950, (fun dr hd => (Option.some.inj (d2.symm.trans hd)) ▸ hO956), (Or.inr (⟨(by first | done | with_reducible assumption | exact om_7fac24c5 eF), (by (try rw [c953]); first | done | with_reducible assumption | omega), (by (try rw [c954]); first | done | with_reducible assumption | exact om_3345b898 p847 eF), (by (try rw [c955]); first | done | with_reducible assumption | exact om_2757374c p848 eP), trivial⟩)), trivial⟩
                                              · skip
                                                obtain ⟨v969, c970⟩ : ∃ v, I819 a0 9 = v := ⟨_, rfl⟩
                                                have b971 := iv15_9 hS827.1 ta0 c970
                                                rw [c970] at p852
                                                obtain ⟨v972, c973⟩ : ∃ v, I819 a0 13 = v := ⟨_, rfl⟩
                                                rw [c973] at p853
                                                obtain ⟨v974, c975⟩ : ∃ v, I819 a0 14 = v := ⟨_, rfl⟩
                                                rw [c975] at p854
                                                replace hF := hF.neg (by exact om_10ed11b5 p850)
                                                replace hP := hP.neg (by exact om_10ed11b5 p850)
                                                replace hF := hF.pos (by exact om_20030929 h816 h818 p851)
                                                replace hP := hP.pos (by exact om_20030929 h816 h818 p851)
                                                refine q_iast dX12_readAlp_78 (kR53 hS827.1 ta309) (ti_in (nR53 hS827.1 ta309) (by exact om_ba969cb0 h304 h385 h511 h637 h763) (by exact om_8a996ee0 h304 h385 h511 h637 h763)) hS827 ta309 (iokF rfl) rfl (by rfl) ?_
                                                intro I976 hS977 e979 f978
                                                have c980 : I976 a1 0 = v29 := (f978 _ _ (fun q => by have z := ta1; rw [q.1, ta309] at z; exact absurd z (by decide))).trans c828
                                                have c981 : I976 a1 1 = v33 := (f978 _ _ (fun q => by have z := ta1; rw [q.1, ta309] at z; exact absurd z (by decide))).trans c829
                                                have c982 : I976 a0 9 = v969 := (f978 _ _ (fun q => by have z := ta0; rw [q.1, ta309] at z; exact absurd z (by decide))).trans c970
                                                have c983 : I976 a0 13 = v972 := (f978 _ _ (fun q => by have z := ta0; rw [q.1, ta309] at z; exact absurd z (by decide))).trans c973
                                                have c984 : I976 a0 14 = v974 := (f978 _ _ (fun q => by have z := ta0; rw [q.1, ta309] at z; exact absurd z (by decide))).trans c975
                                                have hO985 : FrO 14 a1 T I0 I976 := hO830.put f978 ta309 (Or.inl (by decide))
                                                refine q_iincE dX12_readAlp_79 rfl (by decide) (by decide) (by intro j1 j2; exact om_32d85275 h304 h385 h511 h637 h763) ?_
                                                intro v986 h987
                                                refine tr_goto 48 dX12_readAlp_82 (by decide) ?_
                                                refine sf_oA48_5 hE hZ hS977.1 (gB) ta0 (by exact om_797461a0 h304 h385 h511 h637 h763 h987) (by (try rw [c982]); first | done | with_reducible assumption | omega) ⟨_, d2⟩ rfl rfl rfl rfl ?_
                                                rintro I988 R989 L990 ⟨g991, p992, p993, p994, -⟩
                                                obtain rfl : R0 = R989 := funext fun a => funext fun j => (g991.2.2 a j (wm_no rfl)).symm
                                                have hS995 := hS977.tr g991 (by decide +kernel) (by decide +kernel)
                                                have c996 : I988 a1 0 = v29 := (g991.cell ta1 (by decide +kernel)).trans c980
                                                have c997 : I988 a1 1 = v33 := (g991.cell ta1 (by decide +kernel)).trans c981
                                                have c998 : I988 a0 9 = v969 := (g991.cell ta0 (by decide +kernel)).trans c982
                                                have c999 : I988 a0 13 = v972 := (g991.cell ta0 (by decide +kernel)).trans c983
                                                have c1000 : I988 a0 14 = v974 := (g991.cell ta0 (by decide +kernel)).trans c984
                                                have hO1001 : FrO 14 a1 T I0 I988 := hO985.st g991 (by decide +kernel)
                                                rw [c998] at p992
                                                rw [c999] at p993
                                                rw [c983] at p993
                                                rw [c1000] at p994
                                                rw [c984] at p994
                                                have eF := hF.eq
                                                have eP := hP.eq
                                                obtain ⟨v1002, c1003⟩ : ∃ v, I988 a0 10 = v := ⟨_, rfl⟩
                                                have b1004 := iv15_10 hS995.1 ta0 c1003
                                                obtain ⟨v1005, c1006⟩ : ∃ v, I988 a0 11 = v := ⟨_, rfl⟩
                                                obtain ⟨y1007, c1008⟩ : ∃ v, L990 a0 15 = v := ⟨_, rfl⟩
                                                obtain ⟨v1009, c1010⟩ : ∃ v, I988 a0 12 = v := ⟨_, rfl⟩
                                                obtain ⟨v1011, c1012⟩ : ∃ v, I988 a0 8 = v := ⟨_, rfl⟩
                                                have b1013 := iv15_8 hS995.1 ta0 c1012
                                                exact ⟨rfl, rfl, rfl, rfl, rfl, hS995, (fun dr hd => (Option.some.inj (d2.symm.trans hd)) ▸ hO1001), (Or.inr (⟨(by first | done | with_reducible assumption | exact om_7b84bd42 eF), (by (try rw [c998]); first | done | with_reducible assumption | omega), (by (try rw [c999]); first | done | with_reducible assumption | exact om_46d5da87 p853 eF), (by (try rw [c1000]); first | done | with_reducible assumption | exact om_2757374c p854 eP), trivial⟩)), trivial⟩
                                            · skip
                                              obtain ⟨v1014, c1015⟩ : ∃ v, I770 a0 9 = v := ⟨_, rfl⟩
                                              have b1016 := iv15_9 hS778.1 ta0 c1015
                                              rw [c1015] at p793
                                              obtain ⟨v1017, c1018⟩ : ∃ v, I770 a0 13 = v := ⟨_, rfl⟩
                                              rw [c1018] at p794
                                              obtain ⟨v1019, c1020⟩ : ∃ v, I770 a0 14 = v := ⟨_, rfl⟩
                                              rw [c1020] at p795
                                              replace hF := hF.pos (by exact om_b7149a43 h769 p792)
                                              replace hP := hP.pos (by exact om_b7149a43 h769 p792)
                                              refine tr_aload_n dX12_readAlp_63 rfl ?_
                                              refine tr_getR dX12_readAlp_64 fl12_188 (kR15 hS778.1 ta0) d2 ?_
                                              refine tr_getR dX12_readAlp_67 fl12_260 (kR14 hS778.1 ta1) d310 ?_
                                              refine tr_iload_n dX12_readAlp_70 rfl ?_
                                              refine tr_aload_n dX12_readAlp_71 rfl ?_
                                              refine q_iconst dX12_readAlp_72 (by decide) ?_
                                              intro v1021 h1022
                                              refine q_bipush dX12_readAlp_73 (by decide +kernel) ?_
                                              intro v1023 h1024
                                              refine q_callVi hE (M' := mX12_readWhole) (as := [_, _]) dX12_readAlp_75 lk12_161 inX12_readWhole seX12_readWhole myX12_readWhole (by decide) ⟨by decide, by decide⟩ rfl (kR15 hS778.1 ta0) (Nat.le_of_ble_eq_true rfl) rfl rfl (by decide) (by decide) (k_X12_readWhole hS778.1 ta0) ?_
                                              rintro v1029 cn' K' N' I1025 R1026 L1027 ⟨rfl, rfl, rfl, rfl, g1028, p1030, w1031, -⟩
                                              have hS1032 := hS778.tr g1028 (by decide +kernel) (by decide +kernel)
                                              have c1033 : I1025 a1 0 = v29 := (g1028.cell ta1 (by decide +kernel)).trans c779
                                              have c1034 : I1025 a1 1 = v33 := (g1028.cell ta1 (by decide +kernel)).trans c780
                                              have b1035 : 0 ≤ v1029.toInt ∧ v1029.toInt ≤ 99 := by exact om_caf9e5f4 h1022 h1024 p1030
                                              clear p1030
                                              have hO1036 : FrO 14 a1 T I0 I1025 := hO781.st g1028 (by decide +kernel)
                                              have ov1037 := w1031.over (by rw [c1015]; exact om_394b70a2 p793)
                                              obtain ⟨v1038, c1039⟩ : ∃ v, I1025 a0 9 = v := ⟨_, rfl⟩
                                              have b1040 := iv15_9 hS1032.1 ta0 c1039
                                              obtain ⟨v1041, c1042⟩ : ∃ v, I1025 a0 13 = v := ⟨_, rfl⟩
                                              obtain ⟨v1043, c1044⟩ : ∃ v, I1025 a0 14 = v := ⟨_, rfl⟩
                                              (try rw [c1039] at ov1037)
                                              (try rw [c1042] at ov1037)
                                              (try rw [c1044] at ov1037)
                                              (try rw [c1015] at ov1037)
                                              (try rw [c1018] at ov1037)
                                              (try rw [c1020] at ov1037)
                                              refine q_iast dX12_readAlp_78 (kR53 hS1032.1 ta309) (ti_in (nR53 hS1032.1 ta309) (by exact om_ba969cb0 h304 h385 h511 h637 h763) (by exact om_8a996ee0 h304 h385 h511 h637 h763)) hS1032 ta309 (iokF rfl) rfl (by rfl) ?_
                                              intro I1045 hS1046 e1048 f1047
                                              have c1049 : I1045 a1 0 = v29 := (f1047 _ _ (fun q => by have z := ta1; rw [q.1, ta309] at z; exact absurd z (by decide))).trans c1033
                                              have c1050 : I1045 a1 1 = v33 := (f1047 _ _ (fun q => by have z := ta1; rw [q.1, ta309] at z; exact absurd z (by decide))).trans c1034
                                              have c1051 : I1045 a0 9 = v1038 := (f1047 _ _ (fun q => by have z := ta0; rw [q.1, ta309] at z; exact absurd z (by decide))).trans c1039
                                              have c1052 : I1045 a0 13 = v1041 := (f1047 _ _ (fun q => by have z := ta0; rw [q.1, ta309] at z; exact absurd z (by decide))).trans c1042
                                              have c1053 : I1045 a0 14 = v1043 := (f1047 _ _ (fun q => by have z := ta0; rw [q.1, ta309] at z; exact absurd z (by decide))).trans c1044
                                              have hO1054 : FrO 14 a1 T I0 I1045 := hO1036.put f1047 ta309 (Or.inl (by decide))
                                              refine q_iincE dX12_readAlp_79 rfl (by decide) (by decide) (by intro j1 j2; exact om_32d85275 h304 h385 h511 h637 h763) ?_
                                              intro v1055 h1056
                                              refine tr_goto 48 dX12_readAlp_82 (by decide) ?_
                                              refine sf_oA48_5 hE hZ hS1046.1 (gB) ta0 (by exact om_797461a0 h304 h385 h511 h637 h763 h1056) (by (try rw [c1051]); first | done | with_reducible assumption | exact om_394b70a2 ov1037.1) ⟨_, d2⟩ rfl rfl rfl rfl ?_
                                              rintro I1057 R1058 L1059 ⟨g1060, p1061, p1062, p1063, -⟩
                                              obtain rfl : R0 = R1058 := funext fun a => funext fun j => (g1060.2.2 a j (wm_no rfl)).symm
                                              have hS1064 := hS1046.tr g1060 (by decide +kernel) (by decide +kernel)
                                              have c1065 : I1057 a1 0 = v29 := (g1060.cell ta1 (by decide +kernel)).trans c1049
                                              have c1066 : I1057 a1 1 = v33 := (g1060.cell ta1 (by decide +kernel)).trans c1050
                                              have c1067 : I1057 a0 9 = v1038 := (g1060.cell ta0 (by decide +kernel)).trans c1051
                                              have c1068 : I1057 a0 13 = v1041 := (g1060.cell ta0 (by decide +kernel)).trans c1052
                                              have c1069 : I1057 a0 14 = v1043 := (g1060.cell ta0 (by decide +kernel)).trans c1053
                                              have hO1070 : FrO 14 a1 T I0 I1057 := hO1054.st g1060 (by decide +kernel)
                                              rw [c1067] at p1061
                                              rw [c1068] at p1062
                                              rw [c1052] at p1062
                                              rw [c1069] at p1063
                                              rw [c1053] at p1063
                                              have eF := hF.eq
                                              have eP := hP.eq
                                              obtain ⟨v1071, c1072⟩ : ∃ v, I1057 a0 10 = v := ⟨_, rfl⟩
                                              have b1073 := iv15_10 hS1064.1 ta0 c1072
                                              obtain ⟨v1074, c1075⟩ : ∃ v, I1057 a0 11 = v := ⟨_, rfl⟩
                                              obtain ⟨y1076, c1077⟩ : ∃ v, L1059 a0 15 = v := ⟨_, rfl⟩
                                              obtain ⟨v1078, c1079⟩ : ∃ v, I1057 a0 12 = v := ⟨_, rfl⟩
                                              obtain ⟨v1080, c1081⟩ : ∃ v, I1057 a0 8 = v := ⟨_, rfl⟩
                                              have b1082 := iv15_8 hS1064.1 ta0 c1081
                                              exact ⟨rfl, rfl, rfl, rfl, rfl, hS1064, (fun dr hd => (Option.some.inj (d2.symm.trans hd)) ▸ hO1070), (Or.inr (⟨(by first | done | with_reducible assumption | exact om_7fac24c5 eF), (by (try rw [c1067]); first | done | with_reducible assumption | omega), (by (try rw [c1068]); first | done | with_reducible assumption | exact om_9adad658 p794 ov1037.2.1 eF), (by (try rw [c1069]); first | done | with_reducible assumption | exact om_3998a42e p795 ov1037.2.2 eP), trivial⟩)), trivial⟩
                                      · skip
                                        obtain ⟨v1083, c1084⟩ : ∃ v, I693 a0 9 = v := ⟨_, rfl⟩
                                        have b1085 := iv15_9 hS701.1 ta0 c1084
                                        rw [c1084] at p720
                                        obtain ⟨v1086, c1087⟩ : ∃ v, I693 a0 13 = v := ⟨_, rfl⟩
                                        rw [c1087] at p721
                                        obtain ⟨v1088, c1089⟩ : ∃ v, I693 a0 14 = v := ⟨_, rfl⟩
                                        rw [c1089] at p722
                                        replace hF := hF.pos (by exact om_73cc8e29 p719)
                                        replace hP := hP.pos (by exact om_73cc8e29 p719)
                                        refine q_iast dX12_readAlp_78 (kR53 hS701.1 ta309) (ti_in (nR53 hS701.1 ta309) (by exact om_5b4fddb5 h304 h385 h511 h637) (by exact om_7bfe2d13 h304 h385 h511 h637)) hS701 ta309 (iokF rfl) rfl (by rfl) ?_
                                        intro I1090 hS1091 e1093 f1092
                                        have c1094 : I1090 a1 0 = v29 := (f1092 _ _ (fun q => by have z := ta1; rw [q.1, ta309] at z; exact absurd z (by decide))).trans c702
                                        have c1095 : I1090 a1 1 = v33 := (f1092 _ _ (fun q => by have z := ta1; rw [q.1, ta309] at z; exact absurd z (by decide))).trans c703
                                        have c1096 : I1090 a0 9 = v1083 := (f1092 _ _ (fun q => by have z := ta0; rw [q.1, ta309] at z; exact absurd z (by decide))).trans c1084
                                        have c1097 : I1090 a0 13 = v1086 := (f1092 _ _ (fun q => by have z := ta0; rw [q.1, ta309] at z; exact absurd z (by decide))).trans c1087
                                        have c1098 : I1090 a0 14 = v1088 := (f1092 _ _ (fun q => by have z := ta0; rw [q.1, ta309] at z; exact absurd z (by decide))).trans c1089
                                        have hO1099 : FrO 14 a1 T I0 I1090 := hO704.put f1092 ta309 (Or.inl (by decide))
                                        refine q_iincE dX12_readAlp_79 rfl (by decide) (by decide) (by intro j1 j2; exact om_3ce631fb h304 h385 h511 h637) ?_
                                        intro v1100 h1101
                                        refine tr_goto 48 dX12_readAlp_82 (by decide) ?_
                                        refine sf_oA48_4 hE hZ hS1091.1 (gB) ta0 (by exact om_83f9d7cd h304 h385 h511 h637 h1101) (by (try rw [c1096]); first | done | with_reducible assumption | omega) ⟨_, d2⟩ rfl rfl rfl rfl ?_
                                        rintro I1102 R1103 L1104 ⟨g1105, p1106, p1107, p1108, -⟩
                                        obtain rfl : R0 = R1103 := funext fun a => funext fun j => (g1105.2.2 a j (wm_no rfl)).symm
                                        have hS1109 := hS1091.tr g1105 (by decide +kernel) (by decide +kernel)
                                        have c1110 : I1102 a1 0 = v29 := (g1105.cell ta1 (by decide +kernel)).trans c1094
                                        have c1111 : I1102 a1 1 = v33 := (g1105.cell ta1 (by decide +kernel)).trans c1095
                                        have hO1112 : FrO 14 a1 T I0 I1102 := hO1099.st g1105 (by decide +kernel)
                                        obtain ⟨v1113, c1114⟩ : ∃ v, I1102 a0 9 = v := ⟨_, rfl⟩
                                        have b1115 := iv15_9 hS1109.1 ta0 c1114
                                        rw [c1114] at p1106
                                        obtain ⟨v1116, c1117⟩ : ∃ v, I1102 a0 13 = v := ⟨_, rfl⟩
                                        rw [c1117] at p1107
                                        rw [c1097] at p1107
                                        obtain ⟨v1118, c1119⟩ : ∃ v, I1102 a0 14 = v := ⟨_, rfl⟩
                                        rw [c1119] at p1108
                                        rw [c1098] at p1108
                                        have eF := hF.eq
                                        have eP := hP.eq
                                        obtain ⟨v1120, c1121⟩ : ∃ v, I1102 a0 10 = v := ⟨_, rfl⟩
                                        have b1122 := iv15_10 hS1109.1 ta0 c1121
                                        obtain ⟨v1123, c1124⟩ : ∃ v, I1102 a0 11 = v := ⟨_, rfl⟩
                                        obtain ⟨y1125, c1126⟩ : ∃ v, L1104 a0 15 = v := ⟨_, rfl⟩
                                        obtain ⟨v1127, c1128⟩ : ∃ v, I1102 a0 12 = v := ⟨_, rfl⟩
                                        obtain ⟨v1129, c1130⟩ : ∃ v, I1102 a0 8 = v := ⟨_, rfl⟩
                                        have b1131 := iv15_8 hS1109.1 ta0 c1130
                                        exact ⟨rfl, rfl, rfl, rfl, rfl, hS1109, (fun dr hd => (Option.some.inj (d2.symm.trans hd)) ▸ hO1112), (Or.inr (⟨(by first | done | with_reducible assumption | exact om_7fac24c5 eF), (by (try rw [c1114]); first | done | with_reducible assumption | omega), (by (try rw [c1117]); first | done | with_reducible assumption | exact om_9adad658 p721 p1107 eF), (by (try rw [c1119]); first | done | with_reducible assumption | exact om_3998a42e p722 p1108 eP), trivial⟩)), trivial⟩
                                      · skip
                                        obtain ⟨v1132, c1133⟩ : ∃ v, I693 a0 9 = v := ⟨_, rfl⟩
                                        have b1134 := iv15_9 hS701.1 ta0 c1133
                                        rw [c1133] at p726
                                        obtain ⟨v1135, c1136⟩ : ∃ v, I693 a0 13 = v := ⟨_, rfl⟩
                                        rw [c1136] at p727
                                        obtain ⟨v1137, c1138⟩ : ∃ v, I693 a0 14 = v := ⟨_, rfl⟩
                                        rw [c1138] at p728
                                        replace hF := hF.neg (by exact om_10ed11b5 p724)
                                        replace hP := hP.neg (by exact om_10ed11b5 p724)
                                        replace hF := hF.pos (by exact om_20030929 h690 h692 p725)
                                        replace hP := hP.pos (by exact om_20030929 h690 h692 p725)
                                        refine q_iast dX12_readAlp_78 (kR53 hS701.1 ta309) (ti_in (nR53 hS701.1 ta309) (by exact om_5b4fddb5 h304 h385 h511 h637) (by exact om_7bfe2d13 h304 h385 h511 h637)) hS701 ta309 (iokF rfl) rfl (by rfl) ?_
                                        intro I1139 hS1140 e1142 f1141
                                        have c1143 : I1139 a1 0 = v29 := (f1141 _ _ (fun q => by have z := ta1; rw [q.1, ta309] at z; exact absurd z (by decide))).trans c702
                                        have c1144 : I1139 a1 1 = v33 := (f1141 _ _ (fun q => by have z := ta1; rw [q.1, ta309] at z; exact absurd z (by decide))).trans c703
                                        have c1145 : I1139 a0 9 = v1132 := (f1141 _ _ (fun q => by have z := ta0; rw [q.1, ta309] at z; exact absurd z (by decide))).trans c1133
                                        have c1146 : I1139 a0 13 = v1135 := (f1141 _ _ (fun q => by have z := ta0; rw [q.1, ta309] at z; exact absurd z (by decide))).trans c1136
                                        have c1147 : I1139 a0 14 = v1137 := (f1141 _ _ (fun q => by have z := ta0; rw [q.1, ta309] at z; exact absurd z (by decide))).trans c1138
                                        have hO1148 : FrO 14 a1 T I0 I1139 := hO704.put f1141 ta309 (Or.inl (by decide))
                                        refine q_iincE dX12_readAlp_79 rfl (by decide) (by decide) (by intro j1 j2; exact om_3ce631fb h304 h385 h511 h637) ?_
                                        intro v1149 h1150
                                        refine tr_goto 48 dX12_readAlp_82 (by decide) ?_
                                        refine sf_oA48_4 hE hZ hS1140.1 (gB) ta0 (by exact om_83f9d7cd h304 h385 h511 h637 h1150) (by (try rw [c1145]); first | done | with_reducible assumption | omega) ⟨_, d2⟩ rfl rfl rfl rfl ?_
                                        rintro I1151 R1152 L1153 ⟨g1154, p1155, p1156, p1157, -⟩
                                        obtain rfl : R0 = R1152 := funext fun a => funext fun j => (g1154.2.2 a j (wm_no rfl)).symm
                                        have hS1158 := hS1140.tr g1154 (by decide +kernel) (by decide +kernel)
                                        have c1159 : I1151 a1 0 = v29 := (g1154.cell ta1 (by decide +kernel)).trans c1143
                                        have c1160 : I1151 a1 1 = v33 := (g1154.cell ta1 (by decide +kernel)).trans c1144
                                        have hO1161 : FrO 14 a1 T I0 I1151 := hO1148.st g1154 (by decide +kernel)
                                        obtain ⟨v1162, c1163⟩ : ∃ v, I1151 a0 9 = v := ⟨_, rfl⟩
                                        have b1164 := iv15_9 hS1158.1 ta0 c1163
                                        rw [c1163] at p1155
                                        obtain ⟨v1165, c1166⟩ : ∃ v, I1151 a0 13 = v := ⟨_, rfl⟩
                                        rw [c1166] at p1156
                                        rw [c1146] at p1156
                                        obtain ⟨v1167, c1168⟩ : ∃ v, I1151 a0 14 = v := ⟨_, rfl⟩
                                        rw [c1168] at p1157
                                        rw [c1147] at p1157
                                        have eF := hF.eq
                                        have eP := hP.eq
                                        obtain ⟨v1169, c1170⟩ : ∃ v, I1151 a0 10 = v := ⟨_, rfl⟩
                                        have b1171 := iv15_10 hS1158.1 ta0 c1170
                                        obtain ⟨v1172, c1173⟩ : ∃ v, I1151 a0 11 = v := ⟨_, rfl⟩
                                        obtain ⟨y1174, c1175⟩ : ∃ v, L1153 a0 15 = v := ⟨_, rfl⟩
                                        obtain ⟨v1176, c1177⟩ : ∃ v, I1151 a0 12 = v := ⟨_, rfl⟩
                                        obtain ⟨v1178, c1179⟩ : ∃ v, I1151 a0 8 = v := ⟨_, rfl⟩
                                        have b1180 := iv15_8 hS1158.1 ta0 c1179
                                        exact ⟨rfl, rfl, rfl, rfl, rfl, hS1158, (fun dr hd => (Option.some.inj (d2.symm.trans hd)) ▸ hO1161), (Or.inr (⟨(by first | done | with_reducible assumption | exact om_7b84bd42 eF), (by (try rw [c1163]); first | done | with_reducible assumption | omega), (by (try rw [c1166]); first | done | with_reducible assumption | exact om_4510ffdb p727 p1156 eF), (by (try rw [c1168]); first | done | with_reducible assumption | exact om_3998a42e p728 p1157 eP), trivial⟩)), trivial⟩
                                    · skip
                                      obtain ⟨v1181, c1182⟩ : ∃ v, I644 a0 9 = v := ⟨_, rfl⟩
                                      have b1183 := iv15_9 hS652.1 ta0 c1182
                                      rw [c1182] at p667
                                      obtain ⟨v1184, c1185⟩ : ∃ v, I644 a0 13 = v := ⟨_, rfl⟩
                                      rw [c1185] at p668
                                      obtain ⟨v1186, c1187⟩ : ∃ v, I644 a0 14 = v := ⟨_, rfl⟩
                                      rw [c1187] at p669
                                      replace hF := hF.pos (by exact om_b7149a43 h643 p666)
                                      replace hP := hP.pos (by exact om_b7149a43 h643 p666)
                                      refine tr_aload_n dX12_readAlp_63 rfl ?_
                                      refine tr_getR dX12_readAlp_64 fl12_188 (kR15 hS652.1 ta0) d2 ?_
                                      refine tr_getR dX12_readAlp_67 fl12_260 (kR14 hS652.1 ta1) d310 ?_
                                      refine tr_iload_n dX12_readAlp_70 rfl ?_
                                      refine tr_aload_n dX12_readAlp_71 rfl ?_
                                      refine q_iconst dX12_readAlp_72 (by decide) ?_
                                      intro v1188 h1189
                                      refine q_bipush dX12_readAlp_73 (by decide +kernel) ?_
                                      intro v1190 h1191
                                      refine q_callVi hE (M' := mX12_readWhole) (as := [_, _]) dX12_readAlp_75 lk12_161 inX12_readWhole seX12_readWhole myX12_readWhole (by decide) ⟨by decide, by decide⟩ rfl (kR15 hS652.1 ta0) (Nat.le_of_ble_eq_true rfl) rfl rfl (by decide) (by decide) (k_X12_readWhole hS652.1 ta0) ?_
                                      rintro v1196 cn' K' N' I1192 R1193 L1194 ⟨rfl, rfl, rfl, rfl, g1195, p1197, w1198, -⟩
                                      have hS1199 := hS652.tr g1195 (by decide +kernel) (by decide +kernel)
                                      have c1200 : I1192 a1 0 = v29 := (g1195.cell ta1 (by decide +kernel)).trans c653
                                      have c1201 : I1192 a1 1 = v33 := (g1195.cell ta1 (by decide +kernel)).trans c654
                                      have b1202 : 0 ≤ v1196.toInt ∧ v1196.toInt ≤ 99 := by exact om_caf9e5f4 h1189 h1191 p1197
                                      clear p1197
                                      have hO1203 : FrO 14 a1 T I0 I1192 := hO655.st g1195 (by decide +kernel)
                                      have ov1204 := w1198.over (by rw [c1182]; exact om_394b70a2 p667)
                                      obtain ⟨v1205, c1206⟩ : ∃ v, I1192 a0 9 = v := ⟨_, rfl⟩
                                      have b1207 := iv15_9 hS1199.1 ta0 c1206
                                      obtain ⟨v1208, c1209⟩ : ∃ v, I1192 a0 13 = v := ⟨_, rfl⟩
                                      obtain ⟨v1210, c1211⟩ : ∃ v, I1192 a0 14 = v := ⟨_, rfl⟩
                                      (try rw [c1206] at ov1204)
                                      (try rw [c1209] at ov1204)
                                      (try rw [c1211] at ov1204)
                                      (try rw [c1182] at ov1204)
                                      (try rw [c1185] at ov1204)
                                      (try rw [c1187] at ov1204)
                                      refine q_iast dX12_readAlp_78 (kR53 hS1199.1 ta309) (ti_in (nR53 hS1199.1 ta309) (by exact om_5b4fddb5 h304 h385 h511 h637) (by exact om_7bfe2d13 h304 h385 h511 h637)) hS1199 ta309 (iokF rfl) rfl (by rfl) ?_
                                      intro I1212 hS1213 e1215 f1214
                                      have c1216 : I1212 a1 0 = v29 := (f1214 _ _ (fun q => by have z := ta1; rw [q.1, ta309] at z; exact absurd z (by decide))).trans c1200
                                      have c1217 : I1212 a1 1 = v33 := (f1214 _ _ (fun q => by have z := ta1; rw [q.1, ta309] at z; exact absurd z (by decide))).trans c1201
                                      have c1218 : I1212 a0 9 = v1205 := (f1214 _ _ (fun q => by have z := ta0; rw [q.1, ta309] at z; exact absurd z (by decide))).trans c1206
                                      have c1219 : I1212 a0 13 = v1208 := (f1214 _ _ (fun q => by have z := ta0; rw [q.1, ta309] at z; exact absurd z (by decide))).trans c1209
                                      have c1220 : I1212 a0 14 = v1210 := (f1214 _ _ (fun q => by have z := ta0; rw [q.1, ta309] at z; exact absurd z (by decide))).trans c1211
                                      have hO1221 : FrO 14 a1 T I0 I1212 := hO1203.put f1214 ta309 (Or.inl (by decide))
                                      refine q_iincE dX12_readAlp_79 rfl (by decide) (by decide) (by intro j1 j2; exact om_3ce631fb h304 h385 h511 h637) ?_
                                      intro v1222 h1223
                                      refine tr_goto 48 dX12_readAlp_82 (by decide) ?_
                                      refine sf_oA48_4 hE hZ hS1213.1 (gB) ta0 (by exact om_83f9d7cd h304 h385 h511 h637 h1223) (by (try rw [c1218]); first | done | with_reducible assumption | exact om_394b70a2 ov1204.1) ⟨_, d2⟩ rfl rfl rfl rfl ?_
                                      rintro I1224 R1225 L1226 ⟨g1227, p1228, p1229, p1230, -⟩
                                      obtain rfl : R0 = R1225 := funext fun a => funext fun j => (g1227.2.2 a j (wm_no rfl)).symm
                                      have hS1231 := hS1213.tr g1227 (by decide +kernel) (by decide +kernel)
                                      have c1232 : I1224 a1 0 = v29 := (g1227.cell ta1 (by decide +kernel)).trans c1216
                                      have c1233 : I1224 a1 1 = v33 := (g1227.cell ta1 (by decide +kernel)).trans c1217
                                      have hO1234 : FrO 14 a1 T I0 I1224 := hO1221.st g1227 (by decide +kernel)
                                      obtain ⟨v1235, c1236⟩ : ∃ v, I1224 a0 9 = v := ⟨_, rfl⟩
                                      have b1237 := iv15_9 hS1231.1 ta0 c1236
                                      rw [c1236] at p1228
                                      obtain ⟨v1238, c1239⟩ : ∃ v, I1224 a0 13 = v := ⟨_, rfl⟩
                                      rw [c1239] at p1229
                                      rw [c1219] at p1229
                                      obtain ⟨v1240, c1241⟩ : ∃ v, I1224 a0 14 = v := ⟨_, rfl⟩
                                      rw [c1241] at p1230
                                      rw [c1220] at p1230
                                      have eF := hF.eq
                                      have eP := hP.eq
                                      obtain ⟨v1242, c1243⟩ : ∃ v, I1224 a0 10 = v := ⟨_, rfl⟩
                                      have b1244 := iv15_10 hS1231.1 ta0 c1243
                                      obtain ⟨v1245, c1246⟩ : ∃ v, I1224 a0 11 = v := ⟨_, rfl⟩
                                      obtain ⟨y1247, c1248⟩ : ∃ v, L1226 a0 15 = v := ⟨_, rfl⟩
                                      obtain ⟨v1249, c1250⟩ : ∃ v, I1224 a0 12 = v := ⟨_, rfl⟩
                                      obtain ⟨v1251, c1252⟩ : ∃ v, I1224 a0 8 = v := ⟨_, rfl⟩
                                      have b1253 := iv15_8 hS1231.1 ta0 c1252
                                      exact ⟨rfl, rfl, rfl, rfl, rfl, hS1231, (fun dr hd => (Option.some.inj (d2.symm.trans hd)) ▸ hO1234), (Or.inr (⟨(by first | done | with_reducible assumption | exact om_7fac24c5 eF), (by (try rw [c1236]); first | done | with_reducible assumption | omega), (by (try rw [c1239]); first | done | with_reducible assumption | exact om_93aef1c0 p668 ov1204.2.1 p1229 eF), (by (try rw [c1241]); first | done | with_reducible assumption | exact om_3efc13ef p669 ov1204.2.2 p1230 eP), trivial⟩)), trivial⟩
                              · skip
                                obtain ⟨v1254, c1255⟩ : ∃ v, I567 a0 9 = v := ⟨_, rfl⟩
                                have b1256 := iv15_9 hS575.1 ta0 c1255
                                rw [c1255] at p594
                                obtain ⟨v1257, c1258⟩ : ∃ v, I567 a0 13 = v := ⟨_, rfl⟩
                                rw [c1258] at p595
                                obtain ⟨v1259, c1260⟩ : ∃ v, I567 a0 14 = v := ⟨_, rfl⟩
                                rw [c1260] at p596
                                replace hF := hF.pos (by exact om_73cc8e29 p593)
                                replace hP := hP.pos (by exact om_73cc8e29 p593)
                                refine q_iast dX12_readAlp_78 (kR53 hS575.1 ta309) (ti_in (nR53 hS575.1 ta309) (by exact om_70533a47 h304 h385 h511) (by exact om_00d01f83 h304 h385 h511)) hS575 ta309 (iokF rfl) rfl (by rfl) ?_
                                intro I1261 hS1262 e1264 f1263
                                have c1265 : I1261 a1 0 = v29 := (f1263 _ _ (fun q => by have z := ta1; rw [q.1, ta309] at z; exact absurd z (by decide))).trans c576
                                have c1266 : I1261 a1 1 = v33 := (f1263 _ _ (fun q => by have z := ta1; rw [q.1, ta309] at z; exact absurd z (by decide))).trans c577
                                have c1267 : I1261 a0 9 = v1254 := (f1263 _ _ (fun q => by have z := ta0; rw [q.1, ta309] at z; exact absurd z (by decide))).trans c1255
                                have c1268 : I1261 a0 13 = v1257 := (f1263 _ _ (fun q => by have z := ta0; rw [q.1, ta309] at z; exact absurd z (by decide))).trans c1258
                                have c1269 : I1261 a0 14 = v1259 := (f1263 _ _ (fun q => by have z := ta0; rw [q.1, ta309] at z; exact absurd z (by decide))).trans c1260
                                have hO1270 : FrO 14 a1 T I0 I1261 := hO578.put f1263 ta309 (Or.inl (by decide))
                                refine q_iincE dX12_readAlp_79 rfl (by decide) (by decide) (by intro j1 j2; exact om_c222afaf h304 h385 h511) ?_
                                intro v1271 h1272
                                refine tr_goto 48 dX12_readAlp_82 (by decide) ?_
                                refine sf_oA48_3 hE hZ hS1262.1 (gB) ta0 (by exact om_e25ff852 h304 h385 h511 h1272) (by (try rw [c1267]); first | done | with_reducible assumption | omega) ⟨_, d2⟩ rfl rfl rfl rfl ?_
                                rintro I1273 R1274 L1275 ⟨g1276, p1277, p1278, p1279, -⟩
                                obtain rfl : R0 = R1274 := funext fun a => funext fun j => (g1276.2.2 a j (wm_no rfl)).symm
                                have hS1280 := hS1262.tr g1276 (by decide +kernel) (by decide +kernel)
                                have c1281 : I1273 a1 0 = v29 := (g1276.cell ta1 (by decide +kernel)).trans c1265
                                have c1282 : I1273 a1 1 = v33 := (g1276.cell ta1 (by decide +kernel)).trans c1266
                                have hO1283 : FrO 14 a1 T I0 I1273 := hO1270.st g1276 (by decide +kernel)
                                obtain ⟨v1284, c1285⟩ : ∃ v, I1273 a0 9 = v := ⟨_, rfl⟩
                                have b1286 := iv15_9 hS1280.1 ta0 c1285
                                rw [c1285] at p1277
                                obtain ⟨v1287, c1288⟩ : ∃ v, I1273 a0 13 = v := ⟨_, rfl⟩
                                rw [c1288] at p1278
                                rw [c1268] at p1278
                                obtain ⟨v1289, c1290⟩ : ∃ v, I1273 a0 14 = v := ⟨_, rfl⟩
                                rw [c1290] at p1279
                                rw [c1269] at p1279
                                have eF := hF.eq
                                have eP := hP.eq
                                obtain ⟨v1291, c1292⟩ : ∃ v, I1273 a0 10 = v := ⟨_, rfl⟩
                                have b1293 := iv15_10 hS1280.1 ta0 c1292
                                obtain ⟨v1294, c1295⟩ : ∃ v, I1273 a0 11 = v := ⟨_, rfl⟩
                                obtain ⟨y1296, c1297⟩ : ∃ v, L1275 a0 15 = v := ⟨_, rfl⟩
                                obtain ⟨v1298, c1299⟩ : ∃ v, I1273 a0 12 = v := ⟨_, rfl⟩
                                obtain ⟨v1300, c1301⟩ : ∃ v, I1273 a0 8 = v := ⟨_, rfl⟩
                                have b1302 := iv15_8 hS1280.1 ta0 c1301
                                exact ⟨rfl, rfl, rfl, rfl, rfl, hS1280, (fun dr hd => (Option.some.inj (d2.symm.trans hd)) ▸ hO1283), (Or.inr (⟨(by first | done | with_reducible assumption | exact om_7fac24c5 eF), (by (try rw [c1285]); first | done | with_reducible assumption | omega), (by (try rw [c1288]); first | done | with_reducible assumption | exact om_9adad658 p595 p1278 eF), (by (try rw [c1290]); first | done | with_reducible assumption | exact om_3998a42e p596 p1279 eP), trivial⟩)), trivial⟩
                              · skip
                                obtain ⟨v1303, c1304⟩ : ∃ v, I567 a0 9 = v := ⟨_, rfl⟩
                                have b1305 := iv15_9 hS575.1 ta0 c1304
                                rw [c1304] at p600
                                obtain ⟨v1306, c1307⟩ : ∃ v, I567 a0 13 = v := ⟨_, rfl⟩
                                rw [c1307] at p601
                                obtain ⟨v1308, c1309⟩ : ∃ v, I567 a0 14 = v := ⟨_, rfl⟩
                                rw [c1309] at p602
                                replace hF := hF.neg (by exact om_10ed11b5 p598)
                                replace hP := hP.neg (by exact om_10ed11b5 p598)
                                replace hF := hF.pos (by exact om_20030929 h564 h566 p599)
                                replace hP := hP.pos (by exact om_20030929 h564 h566 p599)
                                refine q_iast dX12_readAlp_78 (kR53 hS575.1 ta309) (ti_in (nR53 hS575.1 ta309) (by exact om_70533a47 h304 h385 h511) (by exact om_00d01f83 h304 h385 h511)) hS575 ta309 (iokF rfl) rfl (by rfl) ?_
                                intro I1310 hS1311 e1313 f1312
                                have c1314 : I1310 a1 0 = v29 := (f1312 _ _ (fun q => by have z := ta1; rw [q.1, ta309] at z; exact absurd z (by decide))).trans c576
                                have c1315 : I1310 a1 1 = v33 := (f1312 _ _ (fun q => by have z := ta1; rw [q.1, ta309] at z; exact absurd z (by decide))).trans c577
                                have c1316 : I1310 a0 9 = v1303 := (f1312 _ _ (fun q => by have z := ta0; rw [q.1, ta309] at z; exact absurd z (by decide))).trans c1304
                                have c1317 : I1310 a0 13 = v1306 := (f1312 _ _ (fun q => by have z := ta0; rw [q.1, ta309] at z; exact absurd z (by decide))).trans c1307
                                have c1318 : I1310 a0 14 = v1308 := (f1312 _ _ (fun q => by have z := ta0; rw [q.1, ta309] at z; exact absurd z (by decide))).trans c1309
                                have hO1319 : FrO 14 a1 T I0 I1310 := hO578.put f1312 ta309 (Or.inl (by decide))
                                refine q_iincE dX12_readAlp_79 rfl (by decide) (by decide) (by intro j1 j2; exact om_c222afaf h304 h385 h511) ?_
                                intro v1320 h1321
                                refine tr_goto 48 dX12_readAlp_82 (by decide) ?_
                                refine sf_oA48_3 hE hZ hS1311.1 (gB) ta0 (by exact om_e25ff852 h304 h385 h511 h1321) (by (try rw [c1316]); first | done | with_reducible assumption | omega) ⟨_, d2⟩ rfl rfl rfl rfl ?_
                                rintro I1322 R1323 L1324 ⟨g1325, p1326, p1327, p1328, -⟩
                                obtain rfl : R0 = R1323 := funext fun a => funext fun j => (g1325.2.2 a j (wm_no rfl)).symm
                                have hS1329 := hS1311.tr g1325 (by decide +kernel) (by decide +kernel)
                                have c1330 : I1322 a1 0 = v29 := (g1325.cell ta1 (by decide +kernel)).trans c1314
                                have c1331 : I1322 a1 1 = v33 := (g1325.cell ta1 (by decide +kernel)).trans c1315
                                have hO1332 : FrO 14 a1 T I0 I1322 := hO1319.st g1325 (by decide +kernel)
                                obtain ⟨v1333, c1334⟩ : ∃ v, I1322 a0 9 = v := ⟨_, rfl⟩
                                have b1335 := iv15_9 hS1329.1 ta0 c1334
                                rw [c1334] at p1326
                                obtain ⟨v1336, c1337⟩ : ∃ v, I1322 a0 13 = v := ⟨_, rfl⟩
                                rw [c1337] at p1327
                                rw [c1317] at p1327
                                obtain ⟨v1338, c1339⟩ : ∃ v, I1322 a0 14 = v := ⟨_, rfl⟩
                                rw [c1339] at p1328
                                rw [c1318] at p1328
                                have eF := hF.eq
                                have eP := hP.eq
                                obtain ⟨v1340, c1341⟩ : ∃ v, I1322 a0 10 = v := ⟨_, rfl⟩
                                have b1342 := iv15_10 hS1329.1 ta0 c1341
                                obtain ⟨v1343, c1344⟩ : ∃ v, I1322 a0 11 = v := ⟨_, rfl⟩
                                obtain ⟨y1345, c1346⟩ : ∃ v, L1324 a0 15 = v := ⟨_, rfl⟩
                                obtain ⟨v1347, c1348⟩ : ∃ v, I1322 a0 12 = v := ⟨_, rfl⟩
                                obtain ⟨v1349, c1350⟩ : ∃ v, I1322 a0 8 = v := ⟨_, rfl⟩
                                have b1351 := iv15_8 hS1329.1 ta0 c1350
                                exact ⟨rfl, rfl, rfl, rfl, rfl, hS1329, (fun dr hd => (Option.some.inj (d2.symm.trans hd)) ▸ hO1332), (Or.inr (⟨(by first | done | with_reducible assumption | exact om_7b84bd42 eF), (by (try rw [c1334]); first | done | with_reducible assumption | omega), (by (try rw [c1337]); first | done | with_reducible assumption | exact om_4510ffdb p601 p1327 eF), (by (try rw [c1339]); first | done | with_reducible assumption | exact om_3998a42e p602 p1328 eP), trivial⟩)), trivial⟩
                            · skip
                              obtain ⟨v1352, c1353⟩ : ∃ v, I518 a0 9 = v := ⟨_, rfl⟩
                              have b1354 := iv15_9 hS526.1 ta0 c1353
                              rw [c1353] at p541
                              obtain ⟨v1355, c1356⟩ : ∃ v, I518 a0 13 = v := ⟨_, rfl⟩
                              rw [c1356] at p542
                              obtain ⟨v1357, c1358⟩ : ∃ v, I518 a0 14 = v := ⟨_, rfl⟩
                              rw [c1358] at p543
                              replace hF := hF.pos (by exact om_b7149a43 h517 p540)
                              replace hP := hP.pos (by exact om_b7149a43 h517 p540)
                              refine tr_aload_n dX12_readAlp_63 rfl ?_
                              refine tr_getR dX12_readAlp_64 fl12_188 (kR15 hS526.1 ta0) d2 ?_
                              refine tr_getR dX12_readAlp_67 fl12_260 (kR14 hS526.1 ta1) d310 ?_
                              refine tr_iload_n dX12_readAlp_70 rfl ?_
                              refine tr_aload_n dX12_readAlp_71 rfl ?_
                              refine q_iconst dX12_readAlp_72 (by decide) ?_
                              intro v1359 h1360
                              refine q_bipush dX12_readAlp_73 (by decide +kernel) ?_
                              intro v1361 h1362
                              refine q_callVi hE (M' := mX12_readWhole) (as := [_, _]) dX12_readAlp_75 lk12_161 inX12_readWhole seX12_readWhole myX12_readWhole (by decide) ⟨by decide, by decide⟩ rfl (kR15 hS526.1 ta0) (Nat.le_of_ble_eq_true rfl) rfl rfl (by decide) (by decide) (k_X12_readWhole hS526.1 ta0) ?_
                              rintro v1367 cn' K' N' I1363 R1364 L1365 ⟨rfl, rfl, rfl, rfl, g1366, p1368, w1369, -⟩
                              have hS1370 := hS526.tr g1366 (by decide +kernel) (by decide +kernel)
                              have c1371 : I1363 a1 0 = v29 := (g1366.cell ta1 (by decide +kernel)).trans c527
                              have c1372 : I1363 a1 1 = v33 := (g1366.cell ta1 (by decide +kernel)).trans c528
                              have b1373 : 0 ≤ v1367.toInt ∧ v1367.toInt ≤ 99 := by exact om_caf9e5f4 h1360 h1362 p1368
                              clear p1368
                              have hO1374 : FrO 14 a1 T I0 I1363 := hO529.st g1366 (by decide +kernel)
                              have ov1375 := w1369.over (by rw [c1353]; exact om_394b70a2 p541)
                              obtain ⟨v1376, c1377⟩ : ∃ v, I1363 a0 9 = v := ⟨_, rfl⟩
                              have b1378 := iv15_9 hS1370.1 ta0 c1377
                              obtain ⟨v1379, c1380⟩ : ∃ v, I1363 a0 13 = v := ⟨_, rfl⟩
                              obtain ⟨v1381, c1382⟩ : ∃ v, I1363 a0 14 = v := ⟨_, rfl⟩
                              (try rw [c1377] at ov1375)
                              (try rw [c1380] at ov1375)
                              (try rw [c1382] at ov1375)
                              (try rw [c1353] at ov1375)
                              (try rw [c1356] at ov1375)
                              (try rw [c1358] at ov1375)
                              refine q_iast dX12_readAlp_78 (kR53 hS1370.1 ta309) (ti_in (nR53 hS1370.1 ta309) (by exact om_70533a47 h304 h385 h511) (by exact om_00d01f83 h304 h385 h511)) hS1370 ta309 (iokF rfl) rfl (by rfl) ?_
                              intro I1383 hS1384 e1386 f1385
                              have c1387 : I1383 a1 0 = v29 := (f1385 _ _ (fun q => by have z := ta1; rw [q.1, ta309] at z; exact absurd z (by decide))).trans c1371
                              have c1388 : I1383 a1 1 = v33 := (f1385 _ _ (fun q => by have z := ta1; rw [q.1, ta309] at z; exact absurd z (by decide))).trans c1372
                              have c1389 : I1383 a0 9 = v1376 := (f1385 _ _ (fun q => by have z := ta0; rw [q.1, ta309] at z; exact absurd z (by decide))).trans c1377
                              have c1390 : I1383 a0 13 = v1379 := (f1385 _ _ (fun q => by have z := ta0; rw [q.1, ta309] at z; exact absurd z (by decide))).trans c1380
                              have c1391 : I1383 a0 14 = v1381 := (f1385 _ _ (fun q => by have z := ta0; rw [q.1, ta309] at z; exact absurd z (by decide))).trans c1382
                              have hO1392 : FrO 14 a1 T I0 I1383 := hO1374.put f1385 ta309 (Or.inl (by decide))
                              refine q_iincE dX12_readAlp_79 rfl (by decide) (by decide) (by intro j1 j2; exact om_c222afaf h304 h385 h511) ?_
                              intro v1393 h1394
                              refine tr_goto 48 dX12_readAlp_82 (by decide) ?_
                              refine sf_oA48_3 hE hZ hS1384.1 (gB) ta0 (by exact om_e25ff852 h304 h385 h511 h1394) (by (try rw [c1389]); first | done | with_reducible assumption | exact om_394b70a2 ov1375.1) ⟨_, d2⟩ rfl rfl rfl rfl ?_
                              rintro I1395 R1396 L1397 ⟨g1398, p1399, p1400, p1401, -⟩
                              obtain rfl : R0 = R1396 := funext fun a => funext fun j => (g1398.2.2 a j (wm_no rfl)).symm
                              have hS1402 := hS1384.tr g1398 (by decide +kernel) (by decide +kernel)
                              have c1403 : I1395 a1 0 = v29 := (g1398.cell ta1 (by decide +kernel)).trans c1387
                              have c1404 : I1395 a1 1 = v33 := (g1398.cell ta1 (by decide +kernel)).trans c1388
                              have hO1405 : FrO 14 a1 T I0 I1395 := hO1392.st g1398 (by decide +kernel)
                              obtain ⟨v1406, c1407⟩ : ∃ v, I1395 a0 9 = v := ⟨_, rfl⟩
                              have b1408 := iv15_9 hS1402.1 ta0 c1407
                              rw [c1407] at p1399
                              obtain ⟨v1409, c1410⟩ : ∃ v, I1395 a0 13 = v := ⟨_, rfl⟩
                              rw [c1410] at p1400
                              rw [c1390] at p1400
                              obtain ⟨v1411, c1412⟩ : ∃ v, I1395 a0 14 = v := ⟨_, rfl⟩
                              rw [c1412] at p1401
                              rw [c1391] at p1401
                              have eF := hF.eq
                              have eP := hP.eq
                              obtain ⟨v1413, c1414⟩ : ∃ v, I1395 a0 10 = v := ⟨_, rfl⟩
                              have b1415 := iv15_10 hS1402.1 ta0 c1414
                              obtain ⟨v1416, c1417⟩ : ∃ v, I1395 a0 11 = v := ⟨_, rfl⟩
                              obtain ⟨y1418, c1419⟩ : ∃ v, L1397 a0 15 = v := ⟨_, rfl⟩
                              obtain ⟨v1420, c1421⟩ : ∃ v, I1395 a0 12 = v := ⟨_, rfl⟩
                              obtain ⟨v1422, c1423⟩ : ∃ v, I1395 a0 8 = v := ⟨_, rfl⟩
                              have b1424 := iv15_8 hS1402.1 ta0 c1423
                              exact ⟨rfl, rfl, rfl, rfl, rfl, hS1402, (fun dr hd => (Option.some.inj (d2.symm.trans hd)) ▸ hO1405), (Or.inr (⟨(by first | done | with_reducible assumption | exact om_7fac24c5 eF), (by (try rw [c1407]); first | done | with_reducible assumption | omega), (by (try rw [c1410]); first | done | with_reducible assumption | exact om_93aef1c0 p542 ov1375.2.1 p1400 eF), (by (try rw [c1412]); first | done | with_reducible assumption | exact om_3efc13ef p543 ov1375.2.2 p1401 eP), trivial⟩)), trivial⟩
                      · skip
                        obtain ⟨v1425, c1426⟩ : ∃ v, I441 a0 9 = v := ⟨_, rfl⟩
                        have b1427 := iv15_9 hS449.1 ta0 c1426
                        rw [c1426] at p468
                        obtain ⟨v1428, c1429⟩ : ∃ v, I441 a0 13 = v := ⟨_, rfl⟩
                        rw [c1429] at p469
                        obtain ⟨v1430, c1431⟩ : ∃ v, I441 a0 14 = v := ⟨_, rfl⟩
                        rw [c1431] at p470
                        replace hF := hF.pos (by exact om_73cc8e29 p467)
                        replace hP := hP.pos (by exact om_73cc8e29 p467)
                        refine q_iast dX12_readAlp_78 (kR53 hS449.1 ta309) (ti_in (nR53 hS449.1 ta309) (by exact om_402918db h304 h385) (by exact om_a7c15354 h304 h385)) hS449 ta309 (iokF rfl) rfl (by rfl) ?_
                        intro I1432 hS1433 e1435 f1434
                        have c1436 : I1432 a1 0 = v29 := (f1434 _ _ (fun q => by have z := ta1; rw [q.1, ta309] at z; exact absurd z (by decide))).trans c450
                        have c1437 : I1432 a1 1 = v33 := (f1434 _ _ (fun q => by have z := ta1; rw [q.1, ta309] at z; exact absurd z (by decide))).trans c451
                        have c1438 : I1432 a0 9 = v1425 := (f1434 _ _ (fun q => by have z := ta0; rw [q.1, ta309] at z; exact absurd z (by decide))).trans c1426
                        have c1439 : I1432 a0 13 = v1428 := (f1434 _ _ (fun q => by have z := ta0; rw [q.1, ta309] at z; exact absurd z (by decide))).trans c1429
                        have c1440 : I1432 a0 14 = v1430 := (f1434 _ _ (fun q => by have z := ta0; rw [q.1, ta309] at z; exact absurd z (by decide))).trans c1431
                        have hO1441 : FrO 14 a1 T I0 I1432 := hO452.put f1434 ta309 (Or.inl (by decide))
                        refine q_iincE dX12_readAlp_79 rfl (by decide) (by decide) (by intro j1 j2; exact om_ffa31f14 h304 h385) ?_
                        intro v1442 h1443
                        refine tr_goto 48 dX12_readAlp_82 (by decide) ?_
                        refine sf_oA48_2 hE hZ hS1433.1 (gB) ta0 (by exact om_2c07bd4a h304 h385 h1443) (by (try rw [c1438]); first | done | with_reducible assumption | omega) ⟨_, d2⟩ rfl rfl rfl rfl ?_
                        rintro I1444 R1445 L1446 ⟨g1447, p1448, p1449, p1450, -⟩
                        obtain rfl : R0 = R1445 := funext fun a => funext fun j => (g1447.2.2 a j (wm_no rfl)).symm
                        have hS1451 := hS1433.tr g1447 (by decide +kernel) (by decide +kernel)
                        have c1452 : I1444 a1 0 = v29 := (g1447.cell ta1 (by decide +kernel)).trans c1436
                        have c1453 : I1444 a1 1 = v33 := (g1447.cell ta1 (by decide +kernel)).trans c1437
                        have hO1454 : FrO 14 a1 T I0 I1444 := hO1441.st g1447 (by decide +kernel)
                        obtain ⟨v1455, c1456⟩ : ∃ v, I1444 a0 9 = v := ⟨_, rfl⟩
                        have b1457 := iv15_9 hS1451.1 ta0 c1456
                        rw [c1456] at p1448
                        obtain ⟨v1458, c1459⟩ : ∃ v, I1444 a0 13 = v := ⟨_, rfl⟩
                        rw [c1459] at p1449
                        rw [c1439] at p1449
                        obtain ⟨v1460, c1461⟩ : ∃ v, I1444 a0 14 = v := ⟨_, rfl⟩
                        rw [c1461] at p1450
                        rw [c1440] at p1450
                        have eF := hF.eq
                        have eP := hP.eq
                        obtain ⟨v1462, c1463⟩ : ∃ v, I1444 a0 10 = v := ⟨_, rfl⟩
                        have b1464 := iv15_10 hS1451.1 ta0 c1463
                        obtain ⟨v1465, c1466⟩ : ∃ v, I1444 a0 11 = v := ⟨_, rfl⟩
                        obtain ⟨y1467, c1468⟩ : ∃ v, L1446 a0 15 = v := ⟨_, rfl⟩
                        obtain ⟨v1469, c1470⟩ : ∃ v, I1444 a0 12 = v := ⟨_, rfl⟩
                        obtain ⟨v1471, c1472⟩ : ∃ v, I1444 a0 8 = v := ⟨_, rfl⟩
                        have b1473 := iv15_8 hS1451.1 ta0 c1472
                        exact ⟨rfl, rfl, rfl, rfl, rfl, hS1451, (fun dr hd => (Option.some.inj (d2.symm.trans hd)) ▸ hO1454), (Or.inr (⟨(by first | done | with_reducible assumption | exact om_7fac24c5 eF), (by (try rw [c1456]); first | done | with_reducible assumption | omega), (by (try rw [c1459]); first | done | with_reducible assumption | exact om_9adad658 p469 p1449 eF), (by (try rw [c1461]); first | done | with_reducible assumption | exact om_3998a42e p470 p1450 eP), trivial⟩)), trivial⟩
                      · skip
                        obtain ⟨v1474, c1475⟩ : ∃ v, I441 a0 9 = v := ⟨_, rfl⟩
                        have b1476 := iv15_9 hS449.1 ta0 c1475
                        rw [c1475] at p474
                        obtain ⟨v1477, c1478⟩ : ∃ v, I441 a0 13 = v := ⟨_, rfl⟩
                        rw [c1478] at p475
                        obtain ⟨v1479, c1480⟩ : ∃ v, I441 a0 14 = v := ⟨_, rfl⟩
                        rw [c1480] at p476
                        replace hF := hF.neg (by exact om_10ed11b5 p472)
                        replace hP := hP.neg (by exact om_10ed11b5 p472)
                        replace hF := hF.pos (by exact om_20030929 h438 h440 p473)
                        replace hP := hP.pos (by exact om_20030929 h438 h440 p473)
                        refine q_iast dX12_readAlp_78 (kR53 hS449.1 ta309) (ti_in (nR53 hS449.1 ta309) (by exact om_402918db h304 h385) (by exact om_a7c15354 h304 h385)) hS449 ta309 (iokF rfl) rfl (by rfl) ?_
                        intro I1481 hS1482 e1484 f1483
                        have c1485 : I1481 a1 0 = v29 := (f1483 _ _ (fun q => by have z := ta1; rw [q.1, ta309] at z; exact absurd z (by decide))).trans c450
                        have c1486 : I1481 a1 1 = v33 := (f1483 _ _ (fun q => by have z := ta1; rw [q.1, ta309] at z; exact absurd z (by decide))).trans c451
                        have c1487 : I1481 a0 9 = v1474 := (f1483 _ _ (fun q => by have z := ta0; rw [q.1, ta309] at z; exact absurd z (by decide))).trans c1475
                        have c1488 : I1481 a0 13 = v1477 := (f1483 _ _ (fun q => by have z := ta0; rw [q.1, ta309] at z; exact absurd z (by decide))).trans c1478
                        have c1489 : I1481 a0 14 = v1479 := (f1483 _ _ (fun q => by have z := ta0; rw [q.1, ta309] at z; exact absurd z (by decide))).trans c1480
                        have hO1490 : FrO 14 a1 T I0 I1481 := hO452.put f1483 ta309 (Or.inl (by decide))
                        refine q_iincE dX12_readAlp_79 rfl (by decide) (by decide) (by intro j1 j2; exact om_ffa31f14 h304 h385) ?_
                        intro v1491 h1492
                        refine tr_goto 48 dX12_readAlp_82 (by decide) ?_
                        refine sf_oA48_2 hE hZ hS1482.1 (gB) ta0 (by exact om_2c07bd4a h304 h385 h1492) (by (try rw [c1487]); first | done | with_reducible assumption | omega) ⟨_, d2⟩ rfl rfl rfl rfl ?_
                        rintro I1493 R1494 L1495 ⟨g1496, p1497, p1498, p1499, -⟩
                        obtain rfl : R0 = R1494 := funext fun a => funext fun j => (g1496.2.2 a j (wm_no rfl)).symm
                        have hS1500 := hS1482.tr g1496 (by decide +kernel) (by decide +kernel)
                        have c1501 : I1493 a1 0 = v29 := (g1496.cell ta1 (by decide +kernel)).trans c1485
                        have c1502 : I1493 a1 1 = v33 := (g1496.cell ta1 (by decide +kernel)).trans c1486
                        have hO1503 : FrO 14 a1 T I0 I1493 := hO1490.st g1496 (by decide +kernel)
                        obtain ⟨v1504, c1505⟩ : ∃ v, I1493 a0 9 = v := ⟨_, rfl⟩
                        have b1506 := iv15_9 hS1500.1 ta0 c1505
                        rw [c1505] at p1497
                        obtain ⟨v1507, c1508⟩ : ∃ v, I1493 a0 13 = v := ⟨_, rfl⟩
                        rw [c1508] at p1498
                        rw [c1488] at p1498
                        obtain ⟨v1509, c1510⟩ : ∃ v, I1493 a0 14 = v := ⟨_, rfl⟩
                        rw [c1510] at p1499
                        rw [c1489] at p1499
                        have eF := hF.eq
                        have eP := hP.eq
                        obtain ⟨v1511, c1512⟩ : ∃ v, I1493 a0 10 = v := ⟨_, rfl⟩
                        have b1513 := iv15_10 hS1500.1 ta0 c1512
                        obtain ⟨v1514, c1515⟩ : ∃ v, I1493 a0 11 = v := ⟨_, rfl⟩
                        obtain ⟨y1516, c1517⟩ : ∃ v, L1495 a0 15 = v := ⟨_, rfl⟩
                        obtain ⟨v1518, c1519⟩ : ∃ v, I1493 a0 12 = v := ⟨_, rfl⟩
                        obtain ⟨v1520, c1521⟩ : ∃ v, I1493 a0 8 = v := ⟨_, rfl⟩
                        have b1522 := iv15_8 hS1500.1 ta0 c1521
                        exact ⟨rfl, rfl, rfl, rfl, rfl, hS1500, (fun dr hd => (Option.some.inj (d2.symm.trans hd)) ▸ hO1503), (Or.inr (⟨(by first | done | with_reducible assumption | exact om_7b84bd42 eF), (by (try rw [c1505]); first | done | with_reducible assumption | omega), (by (try rw [c1508]); first | done | with_reducible assumption | exact om_4510ffdb p475 p1498 eF), (by (try rw [c1510]); first | done | with_reducible assumption | exact om_3998a42e p476 p1499 eP), trivial⟩)), trivial⟩
                    · skip
                      obtain ⟨v1523, c1524⟩ : ∃ v, I392 a0 9 = v := ⟨_, rfl⟩
                      have b1525 := iv15_9 hS400.1 ta0 c1524
                      rw [c1524] at p415
                      obtain ⟨v1526, c1527⟩ : ∃ v, I392 a0 13 = v := ⟨_, rfl⟩
                      rw [c1527] at p416
                      obtain ⟨v1528, c1529⟩ : ∃ v, I392 a0 14 = v := ⟨_, rfl⟩
                      rw [c1529] at p417
                      replace hF := hF.pos (by exact om_b7149a43 h391 p414)
                      replace hP := hP.pos (by exact om_b7149a43 h391 p414)
                      refine tr_aload_n dX12_readAlp_63 rfl ?_
                      refine tr_getR dX12_readAlp_64 fl12_188 (kR15 hS400.1 ta0) d2 ?_
                      refine tr_getR dX12_readAlp_67 fl12_260 (kR14 hS400.1 ta1) d310 ?_
                      refine tr_iload_n dX12_readAlp_70 rfl ?_
                      refine tr_aload_n dX12_readAlp_71 rfl ?_
                      refine q_iconst dX12_readAlp_72 (by decide) ?_
                      intro v1530 h1531
                      refine q_bipush dX12_readAlp_73 (by decide +kernel) ?_
                      intro v1532 h1533
                      refine q_callVi hE (M' := mX12_readWhole) (as := [_, _]) dX12_readAlp_75 lk12_161 inX12_readWhole seX12_readWhole myX12_readWhole (by decide) ⟨by decide, by decide⟩ rfl (kR15 hS400.1 ta0) (Nat.le_of_ble_eq_true rfl) rfl rfl (by decide) (by decide) (k_X12_readWhole hS400.1 ta0) ?_
                      rintro v1538 cn' K' N' I1534 R1535 L1536 ⟨rfl, rfl, rfl, rfl, g1537, p1539, w1540, -⟩
                      have hS1541 := hS400.tr g1537 (by decide +kernel) (by decide +kernel)
                      have c1542 : I1534 a1 0 = v29 := (g1537.cell ta1 (by decide +kernel)).trans c401
                      have c1543 : I1534 a1 1 = v33 := (g1537.cell ta1 (by decide +kernel)).trans c402
                      have b1544 : 0 ≤ v1538.toInt ∧ v1538.toInt ≤ 99 := by exact om_caf9e5f4 h1531 h1533 p1539
                      clear p1539
                      have hO1545 : FrO 14 a1 T I0 I1534 := hO403.st g1537 (by decide +kernel)
                      have ov1546 := w1540.over (by rw [c1524]; exact om_394b70a2 p415)
                      obtain ⟨v1547, c1548⟩ : ∃ v, I1534 a0 9 = v := ⟨_, rfl⟩
                      have b1549 := iv15_9 hS1541.1 ta0 c1548
                      obtain ⟨v1550, c1551⟩ : ∃ v, I1534 a0 13 = v := ⟨_, rfl⟩
                      obtain ⟨v1552, c1553⟩ : ∃ v, I1534 a0 14 = v := ⟨_, rfl⟩
                      (try rw [c1548] at ov1546)
                      (try rw [c1551] at ov1546)
                      (try rw [c1553] at ov1546)
                      (try rw [c1524] at ov1546)
                      (try rw [c1527] at ov1546)
                      (try rw [c1529] at ov1546)
                      refine q_iast dX12_readAlp_78 (kR53 hS1541.1 ta309) (ti_in (nR53 hS1541.1 ta309) (by exact om_402918db h304 h385) (by exact om_a7c15354 h304 h385)) hS1541 ta309 (iokF rfl) rfl (by rfl) ?_
                      intro I1554 hS1555 e1557 f1556
                      have c1558 : I1554 a1 0 = v29 := (f1556 _ _ (fun q => by have z := ta1; rw [q.1, ta309] at z; exact absurd z (by decide))).trans c1542
                      have c1559 : I1554 a1 1 = v33 := (f1556 _ _ (fun q => by have z := ta1; rw [q.1, ta309] at z; exact absurd z (by decide))).trans c1543
                      have c1560 : I1554 a0 9 = v1547 := (f1556 _ _ (fun q => by have z := ta0; rw [q.1, ta309] at z; exact absurd z (by decide))).trans c1548
                      have c1561 : I1554 a0 13 = v1550 := (f1556 _ _ (fun q => by have z := ta0; rw [q.1, ta309] at z; exact absurd z (by decide))).trans c1551
                      have c1562 : I1554 a0 14 = v1552 := (f1556 _ _ (fun q => by have z := ta0; rw [q.1, ta309] at z; exact absurd z (by decide))).trans c1553
                      have hO1563 : FrO 14 a1 T I0 I1554 := hO1545.put f1556 ta309 (Or.inl (by decide))
                      refine q_iincE dX12_readAlp_79 rfl (by decide) (by decide) (by intro j1 j2; exact om_ffa31f14 h304 h385) ?_
                      intro v1564 h1565
                      refine tr_goto 48 dX12_readAlp_82 (by decide) ?_
                      refine sf_oA48_2 hE hZ hS1555.1 (gB) ta0 (by exact om_2c07bd4a h304 h385 h1565) (by (try rw [c1560]); first | done | with_reducible assumption | exact om_394b70a2 ov1546.1) ⟨_, d2⟩ rfl rfl rfl rfl ?_
                      rintro I1566 R1567 L1568 ⟨g1569, p1570, p1571, p1572, -⟩
                      obtain rfl : R0 = R1567 := funext fun a => funext fun j => (g1569.2.2 a j (wm_no rfl)).symm
                      have hS1573 := hS1555.tr g1569 (by decide +kernel) (by decide +kernel)
                      have c1574 : I1566 a1 0 = v29 := (g1569.cell ta1 (by decide +kernel)).trans c1558
                      have c1575 : I1566 a1 1 = v33 := (g1569.cell ta1 (by decide +kernel)).trans c1559
                      have hO1576 : FrO 14 a1 T I0 I1566 := hO1563.st g1569 (by decide +kernel)
                      obtain ⟨v1577, c1578⟩ : ∃ v, I1566 a0 9 = v := ⟨_, rfl⟩
                      have b1579 := iv15_9 hS1573.1 ta0 c1578
                      rw [c1578] at p1570
                      obtain ⟨v1580, c1581⟩ : ∃ v, I1566 a0 13 = v := ⟨_, rfl⟩
                      rw [c1581] at p1571
                      rw [c1561] at p1571
                      obtain ⟨v1582, c1583⟩ : ∃ v, I1566 a0 14 = v := ⟨_, rfl⟩
                      rw [c1583] at p1572
                      rw [c1562] at p1572
                      have eF := hF.eq
                      have eP := hP.eq
                      obtain ⟨v1584, c1585⟩ : ∃ v, I1566 a0 10 = v := ⟨_, rfl⟩
                      have b1586 := iv15_10 hS1573.1 ta0 c1585
                      obtain ⟨v1587, c1588⟩ : ∃ v, I1566 a0 11 = v := ⟨_, rfl⟩
                      obtain ⟨y1589, c1590⟩ : ∃ v, L1568 a0 15 = v := ⟨_, rfl⟩
                      obtain ⟨v1591, c1592⟩ : ∃ v, I1566 a0 12 = v := ⟨_, rfl⟩
                      obtain ⟨v1593, c1594⟩ : ∃ v, I1566 a0 8 = v := ⟨_, rfl⟩
                      have b1595 := iv15_8 hS1573.1 ta0 c1594
                      exact ⟨rfl, rfl, rfl, rfl, rfl, hS1573, (fun dr hd => (Option.some.inj (d2.symm.trans hd)) ▸ hO1576), (Or.inr (⟨(by first | done | with_reducible assumption | exact om_7fac24c5 eF), (by (try rw [c1578]); first | done | with_reducible assumption | omega), (by (try rw [c1581]); first | done | with_reducible assumption | exact om_93aef1c0 p416 ov1546.2.1 p1571 eF), (by (try rw [c1583]); first | done | with_reducible assumption | exact om_3efc13ef p417 ov1546.2.2 p1572 eP), trivial⟩)), trivial⟩
              · skip
                obtain ⟨v1596, c1597⟩ : ∃ v, I315 a0 9 = v := ⟨_, rfl⟩
                have b1598 := iv15_9 hS323.1 ta0 c1597
                rw [c1597] at p342
                obtain ⟨v1599, c1600⟩ : ∃ v, I315 a0 13 = v := ⟨_, rfl⟩
                rw [c1600] at p343
                obtain ⟨v1601, c1602⟩ : ∃ v, I315 a0 14 = v := ⟨_, rfl⟩
                rw [c1602] at p344
                replace hF := hF.pos (by exact om_73cc8e29 p341)
                replace hP := hP.pos (by exact om_73cc8e29 p341)
                refine q_iast dX12_readAlp_78 (kR53 hS323.1 ta309) (ti_in (nR53 hS323.1 ta309) (by exact om_d99fa9e4 h304) (by exact om_e7afc65a h304)) hS323 ta309 (iokF rfl) rfl (by rfl) ?_
                intro I1603 hS1604 e1606 f1605
                have c1607 : I1603 a1 0 = v29 := (f1605 _ _ (fun q => by have z := ta1; rw [q.1, ta309] at z; exact absurd z (by decide))).trans c324
                have c1608 : I1603 a1 1 = v33 := (f1605 _ _ (fun q => by have z := ta1; rw [q.1, ta309] at z; exact absurd z (by decide))).trans c325
                have c1609 : I1603 a0 9 = v1596 := (f1605 _ _ (fun q => by have z := ta0; rw [q.1, ta309] at z; exact absurd z (by decide))).trans c1597
                have c1610 : I1603 a0 13 = v1599 := (f1605 _ _ (fun q => by have z := ta0; rw [q.1, ta309] at z; exact absurd z (by decide))).trans c1600
                have c1611 : I1603 a0 14 = v1601 := (f1605 _ _ (fun q => by have z := ta0; rw [q.1, ta309] at z; exact absurd z (by decide))).trans c1602
                have hO1612 : FrO 14 a1 T I0 I1603 := hO326.put f1605 ta309 (Or.inl (by decide))
                refine q_iincE dX12_readAlp_79 rfl (by decide) (by decide) (by intro j1 j2; exact om_502d7b61 h304) ?_
                intro v1613 h1614
                refine tr_goto 48 dX12_readAlp_82 (by decide) ?_
                refine sf_oA48_1 hE hZ hS1604.1 (gB) ta0 (by exact om_597fa305 h304 h1614) (by (try rw [c1609]); first | done | with_reducible assumption | omega) ⟨_, d2⟩ rfl rfl rfl rfl ?_
                rintro I1615 R1616 L1617 ⟨g1618, p1619, p1620, p1621, -⟩
                obtain rfl : R0 = R1616 := funext fun a => funext fun j => (g1618.2.2 a j (wm_no rfl)).symm
                have hS1622 := hS1604.tr g1618 (by decide +kernel) (by decide +kernel)
                have c1623 : I1615 a1 0 = v29 := (g1618.cell ta1 (by decide +kernel)).trans c1607
                have c1624 : I1615 a1 1 = v33 := (g1618.cell ta1 (by decide +kernel)).trans c1608
                have hO1625 : FrO 14 a1 T I0 I1615 := hO1612.st g1618 (by decide +kernel)
                obtain ⟨v1626, c1627⟩ : ∃ v, I1615 a0 9 = v := ⟨_, rfl⟩
                have b1628 := iv15_9 hS1622.1 ta0 c1627
                rw [c1627] at p1619
                obtain ⟨v1629, c1630⟩ : ∃ v, I1615 a0 13 = v := ⟨_, rfl⟩
                rw [c1630] at p1620
                rw [c1610] at p1620
                obtain ⟨v1631, c1632⟩ : ∃ v, I1615 a0 14 = v := ⟨_, rfl⟩
                rw [c1632] at p1621
                rw [c1611] at p1621
                have eF := hF.eq
                have eP := hP.eq
                obtain ⟨v1633, c1634⟩ : ∃ v, I1615 a0 10 = v := ⟨_, rfl⟩
                have b1635 := iv15_10 hS1622.1 ta0 c1634
                obtain ⟨v1636, c1637⟩ : ∃ v, I1615 a0 11 = v := ⟨_, rfl⟩
                obtain ⟨y1638, c1639⟩ : ∃ v, L1617 a0 15 = v := ⟨_, rfl⟩
                obtain ⟨v1640, c1641⟩ : ∃ v, I1615 a0 12 = v := ⟨_, rfl⟩
                obtain ⟨v1642, c1643⟩ : ∃ v, I1615 a0 8 = v := ⟨_, rfl⟩
                have b1644 := iv15_8 hS1622.1 ta0 c1643
                exact ⟨rfl, rfl, rfl, rfl, rfl, hS1622, (fun dr hd => (Option.some.inj (d2.symm.trans hd)) ▸ hO1625), (Or.inr (⟨(by first | done | with_reducible assumption | exact om_7fac24c5 eF), (by (try rw [c1627]); first | done | with_reducible assumption | omega), (by (try rw [c1630]); first | done | with_reducible assumption | exact om_9adad658 p343 p1620 eF), (by (try rw [c1632]); first | done | with_reducible assumption | exact om_3998a42e p344 p1621 eP), trivial⟩)), trivial⟩
              · skip
                obtain ⟨v1645, c1646⟩ : ∃ v, I315 a0 9 = v := ⟨_, rfl⟩
                have b1647 := iv15_9 hS323.1 ta0 c1646
                rw [c1646] at p348
                obtain ⟨v1648, c1649⟩ : ∃ v, I315 a0 13 = v := ⟨_, rfl⟩
                rw [c1649] at p349
                obtain ⟨v1650, c1651⟩ : ∃ v, I315 a0 14 = v := ⟨_, rfl⟩
                rw [c1651] at p350
                replace hF := hF.neg (by exact om_10ed11b5 p346)
                replace hP := hP.neg (by exact om_10ed11b5 p346)
                replace hF := hF.pos (by exact om_20030929 h312 h314 p347)
                replace hP := hP.pos (by exact om_20030929 h312 h314 p347)
                refine q_iast dX12_readAlp_78 (kR53 hS323.1 ta309) (ti_in (nR53 hS323.1 ta309) (by exact om_d99fa9e4 h304) (by exact om_e7afc65a h304)) hS323 ta309 (iokF rfl) rfl (by rfl) ?_
                intro I1652 hS1653 e1655 f1654
                have c1656 : I1652 a1 0 = v29 := (f1654 _ _ (fun q => by have z := ta1; rw [q.1, ta309] at z; exact absurd z (by decide))).trans c324
                have c1657 : I1652 a1 1 = v33 := (f1654 _ _ (fun q => by have z := ta1; rw [q.1, ta309] at z; exact absurd z (by decide))).trans c325
                have c1658 : I1652 a0 9 = v1645 := (f1654 _ _ (fun q => by have z := ta0; rw [q.1, ta309] at z; exact absurd z (by decide))).trans c1646
                have c1659 : I1652 a0 13 = v1648 := (f1654 _ _ (fun q => by have z := ta0; rw [q.1, ta309] at z; exact absurd z (by decide))).trans c1649
                have c1660 : I1652 a0 14 = v1650 := (f1654 _ _ (fun q => by have z := ta0; rw [q.1, ta309] at z; exact absurd z (by decide))).trans c1651
                have hO1661 : FrO 14 a1 T I0 I1652 := hO326.put f1654 ta309 (Or.inl (by decide))
                refine q_iincE dX12_readAlp_79 rfl (by decide) (by decide) (by intro j1 j2; exact om_502d7b61 h304) ?_
                intro v1662 h1663
                refine tr_goto 48 dX12_readAlp_82 (by decide) ?_
                refine sf_oA48_1 hE hZ hS1653.1 (gB) ta0 (by exact om_597fa305 h304 h1663) (by (try rw [c1658]); first | done | with_reducible assumption | omega) ⟨_, d2⟩ rfl rfl rfl rfl ?_
                rintro I1664 R1665 L1666 ⟨g1667, p1668, p1669, p1670, -⟩
                obtain rfl : R0 = R1665 := funext fun a => funext fun j => (g1667.2.2 a j (wm_no rfl)).symm
                have hS1671 := hS1653.tr g1667 (by decide +kernel) (by decide +kernel)
                have c1672 : I1664 a1 0 = v29 := (g1667.cell ta1 (by decide +kernel)).trans c1656
                have c1673 : I1664 a1 1 = v33 := (g1667.cell ta1 (by decide +kernel)).trans c1657
                have hO1674 : FrO 14 a1 T I0 I1664 := hO1661.st g1667 (by decide +kernel)
                obtain ⟨v1675, c1676⟩ : ∃ v, I1664 a0 9 = v := ⟨_, rfl⟩
                have b1677 := iv15_9 hS1671.1 ta0 c1676
                rw [c1676] at p1668
                obtain ⟨v1678, c1679⟩ : ∃ v, I1664 a0 13 = v := ⟨_, rfl⟩
                rw [c1679] at p1669
                rw [c1659] at p1669
                obtain ⟨v1680, c1681⟩ : ∃ v, I1664 a0 14 = v := ⟨_, rfl⟩
                rw [c1681] at p1670
                rw [c1660] at p1670
                have eF := hF.eq
                have eP := hP.eq
                obtain ⟨v1682, c1683⟩ : ∃ v, I1664 a0 10 = v := ⟨_, rfl⟩
                have b1684 := iv15_10 hS1671.1 ta0 c1683
                obtain ⟨v1685, c1686⟩ : ∃ v, I1664 a0 11 = v := ⟨_, rfl⟩
                obtain ⟨y1687, c1688⟩ : ∃ v, L1666 a0 15 = v := ⟨_, rfl⟩
                obtain ⟨v1689, c1690⟩ : ∃ v, I1664 a0 12 = v := ⟨_, rfl⟩
                obtain ⟨v1691, c1692⟩ : ∃ v, I1664 a0 8 = v := ⟨_, rfl⟩
                have b1693 := iv15_8 hS1671.1 ta0 c1692
                exact ⟨rfl, rfl, rfl, rfl, rfl, hS1671, (fun dr hd => (Option.some.inj (d2.symm.trans hd)) ▸ hO1674), (Or.inr (⟨(by first | done | with_reducible assumption | exact om_7b84bd42 eF), (by (try rw [c1676]); first | done | with_reducible assumption | omega), (by (try rw [c1679]); first | done | with_reducible assumption | exact om_4510ffdb p349 p1669 eF), (by (try rw [c1681]); first | done | with_reducible assumption | exact om_3998a42e p350 p1670 eP), trivial⟩)), trivial⟩
            · skip
              exfalso; exact om_682e6e2d h304 h308
        · skip
          obtain ⟨v1694, c1695⟩ : ∃ v, I257 a0 9 = v := ⟨_, rfl⟩
          have b1696 := iv15_9 hS265.1 ta0 c1695
          rw [c1695] at p281
          obtain ⟨v1697, c1698⟩ : ∃ v, I257 a0 13 = v := ⟨_, rfl⟩
          rw [c1698] at p282
          obtain ⟨v1699, c1700⟩ : ∃ v, I257 a0 14 = v := ⟨_, rfl⟩
          rw [c1700] at p283
          replace hF := hF.pos (by exact om_9d03cfe3 p280)
          replace hP := hP.pos (by exact om_9d03cfe3 p280)
          refine q_iconst dX12_readAlp_46 (by decide) ?_
          intro v1701 h1702
          refine tr_istore_n dX12_readAlp_47 (by decide) (by decide) ?_
          refine sf_oA48_0 hE hZ hS265.1 (gB) ta0 (by exact om_615c7989 h1702) (by (try rw [c1695]); first | done | with_reducible assumption | omega) ⟨_, d2⟩ rfl rfl rfl rfl ?_
          rintro I1703 R1704 L1705 ⟨g1706, p1707, p1708, p1709, -⟩
          obtain rfl : R0 = R1704 := funext fun a => funext fun j => (g1706.2.2 a j (wm_no rfl)).symm
          have hS1710 := hS265.tr g1706 (by decide +kernel) (by decide +kernel)
          have c1711 : I1703 a1 0 = v29 := (g1706.cell ta1 (by decide +kernel)).trans c266
          have c1712 : I1703 a1 1 = v33 := (g1706.cell ta1 (by decide +kernel)).trans c267
          have hO1713 : FrO 14 a1 T I0 I1703 := hO268.st g1706 (by decide +kernel)
          obtain ⟨v1714, c1715⟩ : ∃ v, I1703 a0 9 = v := ⟨_, rfl⟩
          have b1716 := iv15_9 hS1710.1 ta0 c1715
          rw [c1715] at p1707
          obtain ⟨v1717, c1718⟩ : ∃ v, I1703 a0 13 = v := ⟨_, rfl⟩
          rw [c1718] at p1708
          rw [c1698] at p1708
          obtain ⟨v1719, c1720⟩ : ∃ v, I1703 a0 14 = v := ⟨_, rfl⟩
          rw [c1720] at p1709
          rw [c1700] at p1709
          have eF := hF.eq
          have eP := hP.eq
          obtain ⟨v1721, c1722⟩ : ∃ v, I1703 a0 10 = v := ⟨_, rfl⟩
          have b1723 := iv15_10 hS1710.1 ta0 c1722
          obtain ⟨v1724, c1725⟩ : ∃ v, I1703 a0 11 = v := ⟨_, rfl⟩
          obtain ⟨y1726, c1727⟩ : ∃ v, L1705 a0 15 = v := ⟨_, rfl⟩
          obtain ⟨v1728, c1729⟩ : ∃ v, I1703 a0 12 = v := ⟨_, rfl⟩
          obtain ⟨v1730, c1731⟩ : ∃ v, I1703 a0 8 = v := ⟨_, rfl⟩
          have b1732 := iv15_8 hS1710.1 ta0 c1731
          exact ⟨rfl, rfl, rfl, rfl, rfl, hS1710, (fun dr hd => (Option.some.inj (d2.symm.trans hd)) ▸ hO1713), (Or.inr (⟨(by first | done | with_reducible assumption | exact om_7fac24c5 eF), (by (try rw [c1715]); first | done | with_reducible assumption | omega), (by (try rw [c1718]); first | done | with_reducible assumption | exact om_9adad658 p282 p1708 eF), (by (try rw [c1720]); first | done | with_reducible assumption | exact om_3998a42e p283 p1709 eP), trivial⟩)), trivial⟩
      · skip
        obtain ⟨v1733, c1734⟩ : ∃ v, I191 a0 9 = v := ⟨_, rfl⟩
        have b1735 := iv15_9 hS199.1 ta0 c1734
        rw [c1734] at p220
        obtain ⟨v1736, c1737⟩ : ∃ v, I191 a0 13 = v := ⟨_, rfl⟩
        rw [c1737] at p221
        obtain ⟨v1738, c1739⟩ : ∃ v, I191 a0 14 = v := ⟨_, rfl⟩
        rw [c1739] at p222
        replace hF := hF.pos (by exact om_d9bcc258 p219)
        replace hP := hP.pos (by exact om_d9bcc258 p219)
        refine tr_istore_n dX12_readAlp_39 (by decide) (by decide) ?_
        refine sf_oA40 hE hZ hS199.1 (gB) ta0 (by (try rw [c1734]); first | done | with_reducible assumption | omega) ⟨_, d2⟩ rfl rfl rfl ?_
        rintro I1740 R1741 L1742 ⟨g1743, p1744, p1745, p1746, -⟩
        obtain rfl : R0 = R1741 := funext fun a => funext fun j => (g1743.2.2 a j (wm_no rfl)).symm
        have hS1747 := hS199.tr g1743 (by decide +kernel) (by decide +kernel)
        have c1748 : I1740 a1 0 = v29 := (g1743.cell ta1 (by decide +kernel)).trans c200
        have c1749 : I1740 a1 1 = v33 := (g1743.cell ta1 (by decide +kernel)).trans c201
        have hO1750 : FrO 14 a1 T I0 I1740 := hO202.st g1743 (by decide +kernel)
        obtain ⟨v1751, c1752⟩ : ∃ v, I1740 a0 9 = v := ⟨_, rfl⟩
        have b1753 := iv15_9 hS1747.1 ta0 c1752
        rw [c1752] at p1744
        obtain ⟨v1754, c1755⟩ : ∃ v, I1740 a0 13 = v := ⟨_, rfl⟩
        rw [c1755] at p1745
        rw [c1737] at p1745
        obtain ⟨v1756, c1757⟩ : ∃ v, I1740 a0 14 = v := ⟨_, rfl⟩
        rw [c1757] at p1746
        rw [c1739] at p1746
        have eF := hF.eq
        have eP := hP.eq
        obtain ⟨v1758, c1759⟩ : ∃ v, I1740 a0 10 = v := ⟨_, rfl⟩
        have b1760 := iv15_10 hS1747.1 ta0 c1759
        obtain ⟨v1761, c1762⟩ : ∃ v, I1740 a0 11 = v := ⟨_, rfl⟩
        obtain ⟨y1763, c1764⟩ : ∃ v, L1742 a0 15 = v := ⟨_, rfl⟩
        obtain ⟨v1765, c1766⟩ : ∃ v, I1740 a0 12 = v := ⟨_, rfl⟩
        obtain ⟨v1767, c1768⟩ : ∃ v, I1740 a0 8 = v := ⟨_, rfl⟩
        have b1769 := iv15_8 hS1747.1 ta0 c1768
        exact ⟨rfl, rfl, rfl, rfl, rfl, hS1747, (fun dr hd => (Option.some.inj (d2.symm.trans hd)) ▸ hO1750), (Or.inr (⟨(by first | done | with_reducible assumption | exact om_7fac24c5 eF), (by (try rw [c1752]); first | done | with_reducible assumption | omega), (by (try rw [c1755]); first | done | with_reducible assumption | exact om_9adad658 p221 p1745 eF), (by (try rw [c1757]); first | done | with_reducible assumption | exact om_3998a42e p222 p1746 eP), trivial⟩)), trivial⟩
      · skip
        obtain ⟨v1770, c1771⟩ : ∃ v, I191 a0 9 = v := ⟨_, rfl⟩
        have b1772 := iv15_9 hS199.1 ta0 c1771
        rw [c1771] at p227
        obtain ⟨v1773, c1774⟩ : ∃ v, I191 a0 13 = v := ⟨_, rfl⟩
        rw [c1774] at p228
        obtain ⟨v1775, c1776⟩ : ∃ v, I191 a0 14 = v := ⟨_, rfl⟩
        rw [c1776] at p229
        replace hF := hF.neg (by exact om_775460f3 p224 p225)
        replace hP := hP.neg (by exact om_775460f3 p224 p225)
        replace hF := hF.pos (by exact om_73cc8e29 p226)
        replace hP := hP.pos (by exact om_73cc8e29 p226)
        refine tr_istore_n dX12_readAlp_39 (by decide) (by decide) ?_
        refine sf_oA40 hE hZ hS199.1 (gB) ta0 (by (try rw [c1771]); first | done | with_reducible assumption | omega) ⟨_, d2⟩ rfl rfl rfl ?_
        rintro I1777 R1778 L1779 ⟨g1780, p1781, p1782, p1783, -⟩
        obtain rfl : R0 = R1778 := funext fun a => funext fun j => (g1780.2.2 a j (wm_no rfl)).symm
        have hS1784 := hS199.tr g1780 (by decide +kernel) (by decide +kernel)
        have c1785 : I1777 a1 0 = v29 := (g1780.cell ta1 (by decide +kernel)).trans c200
        have c1786 : I1777 a1 1 = v33 := (g1780.cell ta1 (by decide +kernel)).trans c201
        have hO1787 : FrO 14 a1 T I0 I1777 := hO202.st g1780 (by decide +kernel)
        obtain ⟨v1788, c1789⟩ : ∃ v, I1777 a0 9 = v := ⟨_, rfl⟩
        have b1790 := iv15_9 hS1784.1 ta0 c1789
        rw [c1789] at p1781
        obtain ⟨v1791, c1792⟩ : ∃ v, I1777 a0 13 = v := ⟨_, rfl⟩
        rw [c1792] at p1782
        rw [c1774] at p1782
        obtain ⟨v1793, c1794⟩ : ∃ v, I1777 a0 14 = v := ⟨_, rfl⟩
        rw [c1794] at p1783
        rw [c1776] at p1783
        have eF := hF.eq
        have eP := hP.eq
        obtain ⟨v1795, c1796⟩ : ∃ v, I1777 a0 10 = v := ⟨_, rfl⟩
        have b1797 := iv15_10 hS1784.1 ta0 c1796
        obtain ⟨v1798, c1799⟩ : ∃ v, I1777 a0 11 = v := ⟨_, rfl⟩
        obtain ⟨y1800, c1801⟩ : ∃ v, L1779 a0 15 = v := ⟨_, rfl⟩
        obtain ⟨v1802, c1803⟩ : ∃ v, I1777 a0 12 = v := ⟨_, rfl⟩
        obtain ⟨v1804, c1805⟩ : ∃ v, I1777 a0 8 = v := ⟨_, rfl⟩
        have b1806 := iv15_8 hS1784.1 ta0 c1805
        exact ⟨rfl, rfl, rfl, rfl, rfl, hS1784, (fun dr hd => (Option.some.inj (d2.symm.trans hd)) ▸ hO1787), (Or.inr (⟨(by first | done | with_reducible assumption | exact om_7fac24c5 eF), (by (try rw [c1789]); first | done | with_reducible assumption | omega), (by (try rw [c1792]); first | done | with_reducible assumption | exact om_9adad658 p228 p1782 eF), (by (try rw [c1794]); first | done | with_reducible assumption | exact om_3998a42e p229 p1783 eP), trivial⟩)), trivial⟩
      · skip
        obtain ⟨v1807, c1808⟩ : ∃ v, I191 a0 9 = v := ⟨_, rfl⟩
        have b1809 := iv15_9 hS199.1 ta0 c1808
        rw [c1808] at p235
        obtain ⟨v1810, c1811⟩ : ∃ v, I191 a0 13 = v := ⟨_, rfl⟩
        rw [c1811] at p236
        obtain ⟨v1812, c1813⟩ : ∃ v, I191 a0 14 = v := ⟨_, rfl⟩
        rw [c1813] at p237
        replace hF := hF.neg (by exact om_775460f3 p231 p232)
        replace hP := hP.neg (by exact om_775460f3 p231 p232)
        replace hF := hF.neg (by exact om_10ed11b5 p233)
        replace hP := hP.neg (by exact om_10ed11b5 p233)
        replace hF := hF.pos (by exact om_f9d1e603 h188 h190 p234)
        replace hP := hP.pos (by exact om_f9d1e603 h188 h190 p234)
        refine tr_istore_n dX12_readAlp_39 (by decide) (by decide) ?_
        refine sf_oA40 hE hZ hS199.1 (gB) ta0 (by (try rw [c1808]); first | done | with_reducible assumption | omega) ⟨_, d2⟩ rfl rfl rfl ?_
        rintro I1814 R1815 L1816 ⟨g1817, p1818, p1819, p1820, -⟩
        obtain rfl : R0 = R1815 := funext fun a => funext fun j => (g1817.2.2 a j (wm_no rfl)).symm
        have hS1821 := hS199.tr g1817 (by decide +kernel) (by decide +kernel)
        have c1822 : I1814 a1 0 = v29 := (g1817.cell ta1 (by decide +kernel)).trans c200
        have c1823 : I1814 a1 1 = v33 := (g1817.cell ta1 (by decide +kernel)).trans c201
        have hO1824 : FrO 14 a1 T I0 I1814 := hO202.st g1817 (by decide +kernel)
        obtain ⟨v1825, c1826⟩ : ∃ v, I1814 a0 9 = v := ⟨_, rfl⟩
        have b1827 := iv15_9 hS1821.1 ta0 c1826
        rw [c1826] at p1818
        obtain ⟨v1828, c1829⟩ : ∃ v, I1814 a0 13 = v := ⟨_, rfl⟩
        rw [c1829] at p1819
        rw [c1811] at p1819
        obtain ⟨v1830, c1831⟩ : ∃ v, I1814 a0 14 = v := ⟨_, rfl⟩
        rw [c1831] at p1820
        rw [c1813] at p1820
        have eF := hF.eq
        have eP := hP.eq
        obtain ⟨v1832, c1833⟩ : ∃ v, I1814 a0 10 = v := ⟨_, rfl⟩
        have b1834 := iv15_10 hS1821.1 ta0 c1833
        obtain ⟨v1835, c1836⟩ : ∃ v, I1814 a0 11 = v := ⟨_, rfl⟩
        obtain ⟨y1837, c1838⟩ : ∃ v, L1816 a0 15 = v := ⟨_, rfl⟩
        obtain ⟨v1839, c1840⟩ : ∃ v, I1814 a0 12 = v := ⟨_, rfl⟩
        obtain ⟨v1841, c1842⟩ : ∃ v, I1814 a0 8 = v := ⟨_, rfl⟩
        have b1843 := iv15_8 hS1821.1 ta0 c1842
        exact ⟨rfl, rfl, rfl, rfl, rfl, hS1821, (fun dr hd => (Option.some.inj (d2.symm.trans hd)) ▸ hO1824), (Or.inr (⟨(by first | done | with_reducible assumption | exact om_7b84bd42 eF), (by (try rw [c1826]); first | done | with_reducible assumption | omega), (by (try rw [c1829]); first | done | with_reducible assumption | exact om_4510ffdb p236 p1819 eF), (by (try rw [c1831]); first | done | with_reducible assumption | exact om_3998a42e p237 p1820 eP), trivial⟩)), trivial⟩
    · skip
      obtain ⟨v1844, c1845⟩ : ∃ v, I121 a0 9 = v := ⟨_, rfl⟩
      have b1846 := iv15_9 hS129.1 ta0 c1845
      rw [c1845] at p150
      obtain ⟨v1847, c1848⟩ : ∃ v, I121 a0 13 = v := ⟨_, rfl⟩
      rw [c1848] at p151
      obtain ⟨v1849, c1850⟩ : ∃ v, I121 a0 14 = v := ⟨_, rfl⟩
      rw [c1850] at p152
      replace hF := hF.pos (by exact om_94b4840e p149)
      replace hP := hP.pos (by exact om_94b4840e p149)
      refine tr_istore_n dX12_readAlp_30 (by decide) (by decide) ?_
      refine sf_oA31 hE hZ hS129.1 (gB) ta0 (by (try rw [c1845]); first | done | with_reducible assumption | omega) ⟨_, d2⟩ rfl rfl ?_
      rintro I1851 R1852 L1853 ⟨g1854, p1855, p1856, p1857, -⟩
      obtain rfl : R0 = R1852 := funext fun a => funext fun j => (g1854.2.2 a j (wm_no rfl)).symm
      have hS1858 := hS129.tr g1854 (by decide +kernel) (by decide +kernel)
      have c1859 : I1851 a1 0 = v29 := (g1854.cell ta1 (by decide +kernel)).trans c130
      have c1860 : I1851 a1 1 = v33 := (g1854.cell ta1 (by decide +kernel)).trans c131
      have hO1861 : FrO 14 a1 T I0 I1851 := hO132.st g1854 (by decide +kernel)
      obtain ⟨v1862, c1863⟩ : ∃ v, I1851 a0 9 = v := ⟨_, rfl⟩
      have b1864 := iv15_9 hS1858.1 ta0 c1863
      rw [c1863] at p1855
      obtain ⟨v1865, c1866⟩ : ∃ v, I1851 a0 13 = v := ⟨_, rfl⟩
      rw [c1866] at p1856
      rw [c1848] at p1856
      obtain ⟨v1867, c1868⟩ : ∃ v, I1851 a0 14 = v := ⟨_, rfl⟩
      rw [c1868] at p1857
      rw [c1850] at p1857
      have eF := hF.eq
      have eP := hP.eq
      obtain ⟨v1869, c1870⟩ : ∃ v, I1851 a0 10 = v := ⟨_, rfl⟩
      have b1871 := iv15_10 hS1858.1 ta0 c1870
      obtain ⟨v1872, c1873⟩ : ∃ v, I1851 a0 11 = v := ⟨_, rfl⟩
      obtain ⟨y1874, c1875⟩ : ∃ v, L1853 a0 15 = v := ⟨_, rfl⟩
      obtain ⟨v1876, c1877⟩ : ∃ v, I1851 a0 12 = v := ⟨_, rfl⟩
      obtain ⟨v1878, c1879⟩ : ∃ v, I1851 a0 8 = v := ⟨_, rfl⟩
      have b1880 := iv15_8 hS1858.1 ta0 c1879
      exact ⟨rfl, rfl, rfl, rfl, rfl, hS1858, (fun dr hd => (Option.some.inj (d2.symm.trans hd)) ▸ hO1861), (Or.inr (⟨(by first | done | with_reducible assumption | exact om_7fac24c5 eF), (by (try rw [c1863]); first | done | with_reducible assumption | omega), (by (try rw [c1866]); first | done | with_reducible assumption | exact om_9adad658 p151 p1856 eF), (by (try rw [c1868]); first | done | with_reducible assumption | exact om_3998a42e p152 p1857 eP), trivial⟩)), trivial⟩
    · skip
      obtain ⟨v1881, c1882⟩ : ∃ v, I121 a0 9 = v := ⟨_, rfl⟩
      have b1883 := iv15_9 hS129.1 ta0 c1882
      rw [c1882] at p157
      obtain ⟨v1884, c1885⟩ : ∃ v, I121 a0 13 = v := ⟨_, rfl⟩
      rw [c1885] at p158
      obtain ⟨v1886, c1887⟩ : ∃ v, I121 a0 14 = v := ⟨_, rfl⟩
      rw [c1887] at p159
      replace hF := hF.neg (by exact om_3aac0632 p154 p155)
      replace hP := hP.neg (by exact om_3aac0632 p154 p155)
      replace hF := hF.pos (by exact om_73cc8e29 p156)
      replace hP := hP.pos (by exact om_73cc8e29 p156)
      refine tr_istore_n dX12_readAlp_30 (by decide) (by decide) ?_
      refine sf_oA31 hE hZ hS129.1 (gB) ta0 (by (try rw [c1882]); first | done | with_reducible assumption | omega) ⟨_, d2⟩ rfl rfl ?_
      rintro I1888 R1889 L1890 ⟨g1891, p1892, p1893, p1894, -⟩
      obtain rfl : R0 = R1889 := funext fun a => funext fun j => (g1891.2.2 a j (wm_no rfl)).symm
      have hS1895 := hS129.tr g1891 (by decide +kernel) (by decide +kernel)
      have c1896 : I1888 a1 0 = v29 := (g1891.cell ta1 (by decide +kernel)).trans c130
      have c1897 : I1888 a1 1 = v33 := (g1891.cell ta1 (by decide +kernel)).trans c131
      have hO1898 : FrO 14 a1 T I0 I1888 := hO132.st g1891 (by decide +kernel)
      obtain ⟨v1899, c1900⟩ : ∃ v, I1888 a0 9 = v := ⟨_, rfl⟩
      have b1901 := iv15_9 hS1895.1 ta0 c1900
      rw [c1900] at p1892
      obtain ⟨v1902, c1903⟩ : ∃ v, I1888 a0 13 = v := ⟨_, rfl⟩
      rw [c1903] at p1893
      rw [c1885] at p1893
      obtain ⟨v1904, c1905⟩ : ∃ v, I1888 a0 14 = v := ⟨_, rfl⟩
      rw [c1905] at p1894
      rw [c1887] at p1894
      have eF := hF.eq
      have eP := hP.eq
      obtain ⟨v1906, c1907⟩ : ∃ v, I1888 a0 10 = v := ⟨_, rfl⟩
      have b1908 := iv15_10 hS1895.1 ta0 c1907
      obtain ⟨v1909, c1910⟩ : ∃ v, I1888 a0 11 = v := ⟨_, rfl⟩
      obtain ⟨y1911, c1912⟩ : ∃ v, L1890 a0 15 = v := ⟨_, rfl⟩
      obtain ⟨v1913, c1914⟩ : ∃ v, I1888 a0 12 = v := ⟨_, rfl⟩
      obtain ⟨v1915, c1916⟩ : ∃ v, I1888 a0 8 = v := ⟨_, rfl⟩
      have b1917 := iv15_8 hS1895.1 ta0 c1916
      exact ⟨rfl, rfl, rfl, rfl, rfl, hS1895, (fun dr hd => (Option.some.inj (d2.symm.trans hd)) ▸ hO1898), (Or.inr (⟨(by first | done | with_reducible assumption | exact om_7fac24c5 eF), (by (try rw [c1900]); first | done | with_reducible assumption | omega), (by (try rw [c1903]); first | done | with_reducible assumption | exact om_9adad658 p158 p1893 eF), (by (try rw [c1905]); first | done | with_reducible assumption | exact om_3998a42e p159 p1894 eP), trivial⟩)), trivial⟩
    · skip
      obtain ⟨v1918, c1919⟩ : ∃ v, I121 a0 9 = v := ⟨_, rfl⟩
      have b1920 := iv15_9 hS129.1 ta0 c1919
      rw [c1919] at p165
      obtain ⟨v1921, c1922⟩ : ∃ v, I121 a0 13 = v := ⟨_, rfl⟩
      rw [c1922] at p166
      obtain ⟨v1923, c1924⟩ : ∃ v, I121 a0 14 = v := ⟨_, rfl⟩
      rw [c1924] at p167
      replace hF := hF.neg (by exact om_3aac0632 p161 p162)
      replace hP := hP.neg (by exact om_3aac0632 p161 p162)
      replace hF := hF.neg (by exact om_10ed11b5 p163)
      replace hP := hP.neg (by exact om_10ed11b5 p163)
      replace hF := hF.pos (by exact om_826589b0 h118 h120 p164)
      replace hP := hP.pos (by exact om_826589b0 h118 h120 p164)
      refine tr_istore_n dX12_readAlp_30 (by decide) (by decide) ?_
      refine sf_oA31 hE hZ hS129.1 (gB) ta0 (by (try rw [c1919]); first | done | with_reducible assumption | omega) ⟨_, d2⟩ rfl rfl ?_
      rintro I1925 R1926 L1927 ⟨g1928, p1929, p1930, p1931, -⟩
      obtain rfl : R0 = R1926 := funext fun a => funext fun j => (g1928.2.2 a j (wm_no rfl)).symm
      have hS1932 := hS129.tr g1928 (by decide +kernel) (by decide +kernel)
      have c1933 : I1925 a1 0 = v29 := (g1928.cell ta1 (by decide +kernel)).trans c130
      have c1934 : I1925 a1 1 = v33 := (g1928.cell ta1 (by decide +kernel)).trans c131
      have hO1935 : FrO 14 a1 T I0 I1925 := hO132.st g1928 (by decide +kernel)
      obtain ⟨v1936, c1937⟩ : ∃ v, I1925 a0 9 = v := ⟨_, rfl⟩
      have b1938 := iv15_9 hS1932.1 ta0 c1937
      rw [c1937] at p1929
      obtain ⟨v1939, c1940⟩ : ∃ v, I1925 a0 13 = v := ⟨_, rfl⟩
      rw [c1940] at p1930
      rw [c1922] at p1930
      obtain ⟨v1941, c1942⟩ : ∃ v, I1925 a0 14 = v := ⟨_, rfl⟩
      rw [c1942] at p1931
      rw [c1924] at p1931
      have eF := hF.eq
      have eP := hP.eq
      obtain ⟨v1943, c1944⟩ : ∃ v, I1925 a0 10 = v := ⟨_, rfl⟩
      have b1945 := iv15_10 hS1932.1 ta0 c1944
      obtain ⟨v1946, c1947⟩ : ∃ v, I1925 a0 11 = v := ⟨_, rfl⟩
      obtain ⟨y1948, c1949⟩ : ∃ v, L1927 a0 15 = v := ⟨_, rfl⟩
      obtain ⟨v1950, c1951⟩ : ∃ v, I1925 a0 12 = v := ⟨_, rfl⟩
      obtain ⟨v1952, c1953⟩ : ∃ v, I1925 a0 8 = v := ⟨_, rfl⟩
      have b1954 := iv15_8 hS1932.1 ta0 c1953
      exact ⟨rfl, rfl, rfl, rfl, rfl, hS1932, (fun dr hd => (Option.some.inj (d2.symm.trans hd)) ▸ hO1935), (Or.inr (⟨(by first | done | with_reducible assumption | exact om_7b84bd42 eF), (by (try rw [c1937]); first | done | with_reducible assumption | omega), (by (try rw [c1940]); first | done | with_reducible assumption | exact om_4510ffdb p166 p1930 eF), (by (try rw [c1942]); first | done | with_reducible assumption | exact om_3998a42e p167 p1931 eP), trivial⟩)), trivial⟩
  · skip
    have p1955 := p61
    unfold Q7M at p1955
    replace hF := hF.pos (by exact om_1d15bf7d pre18 b31.2 b31.1 p32 b59.2 b59.1 p60 h66 p1955)
    replace hP := hP.pos (by exact om_1d15bf7d pre18 b31.2 b31.1 p32 b59.2 b59.1 p60 h66 p1955)
    refine tr_aload_n dX12_readAlp_10 rfl ?_
    refine q_iconst dX12_readAlp_11 (by decide) ?_
    intro v1956 h1957
    refine q_callVv hE (M' := mX12_flaw) (as := [_]) dX12_readAlp_12 lk12_145 inX12_flaw seX12_flaw myX12_flaw (by decide) ⟨by decide, by decide⟩ rfl (kR15 hS0.1 ta0) (Nat.le_of_ble_eq_true rfl) rfl rfl (by decide) (by decide) (fk_X12_flaw hS0.1  ta0 (by exact om_7e011daf h1957) (by (try rw [c4]); first | done | with_reducible assumption | exact om_df98ac7c pre0 pre1 b5.2 b5.1 p6)) ?_
    rintro cn' K' N' I1958 R1959 L1960 ⟨rfl, rfl, rfl, rfl, rfl, g1961, p1964, p1965, p1966, -⟩
    have hM1967 : NmM I1958 R0 L0 a1 gQ := NmM.kpS hM0 g1961 hS0.1 ta1 (by decide +kernel) (by decide +kernel)
    have hS1968 := hS0.tr g1961 (by decide +kernel) (by decide +kernel)
    have c1969 : I1958 a0 10 = v8 := (g1961.cell ta0 (by decide +kernel)).trans c9
    have c1970 : I1958 a0 11 = v12 := (g1961.cell ta0 (by decide +kernel)).trans c13
    have c1971 : I1958 a0 12 = v18 := (g1961.cell ta0 (by decide +kernel)).trans c19
    have c1972 : I1958 a0 8 = v21 := (g1961.cell ta0 (by decide +kernel)).trans c22
    have c1973 : I1958 a1 0 = v29 := (g1961.cell ta1 (by decide +kernel)).trans c30
    have c1974 : I1958 a1 1 = v33 := (g1961.cell ta1 (by decide +kernel)).trans c34
    have hO1975 : FrO 14 a1 T I0 I1958 := hO0.st g1961 (by decide +kernel)
    obtain ⟨v1976, c1977⟩ : ∃ v, I1958 a0 9 = v := ⟨_, rfl⟩
    have b1978 := iv15_9 hS1968.1 ta0 c1977
    rw [c1977] at p1964
    obtain ⟨v1979, c1980⟩ : ∃ v, I1958 a0 13 = v := ⟨_, rfl⟩
    rw [c1980] at p1965
    obtain ⟨v1981, c1982⟩ : ∃ v, I1958 a0 14 = v := ⟨_, rfl⟩
    rw [c1982] at p1966
    rw [c9] at p1966
    refine sf_oA15 hE hZ hS1968.1 (gB) ta0 (by (try rw [c1977]); first | done | with_reducible assumption | omega) ⟨_, d2⟩ rfl ?_
    rintro I1983 R1984 L1985 ⟨g1986, p1987, p1988, p1989, -⟩
    obtain rfl : R0 = R1984 := funext fun a => funext fun j => (g1986.2.2 a j (wm_no rfl)).symm
    have hS1990 := hS1968.tr g1986 (by decide +kernel) (by decide +kernel)
    have c1991 : I1983 a1 0 = v29 := (g1986.cell ta1 (by decide +kernel)).trans c1973
    have c1992 : I1983 a1 1 = v33 := (g1986.cell ta1 (by decide +kernel)).trans c1974
    have hO1993 : FrO 14 a1 T I0 I1983 := hO1975.st g1986 (by decide +kernel)
    obtain ⟨v1994, c1995⟩ : ∃ v, I1983 a0 9 = v := ⟨_, rfl⟩
    have b1996 := iv15_9 hS1990.1 ta0 c1995
    rw [c1995] at p1987
    obtain ⟨v1997, c1998⟩ : ∃ v, I1983 a0 13 = v := ⟨_, rfl⟩
    rw [c1998] at p1988
    rw [c1980] at p1988
    obtain ⟨v1999, c2000⟩ : ∃ v, I1983 a0 14 = v := ⟨_, rfl⟩
    rw [c2000] at p1989
    rw [c1982] at p1989
    have eF := hF.eq
    have eP := hP.eq
    obtain ⟨v2001, c2002⟩ : ∃ v, I1983 a0 10 = v := ⟨_, rfl⟩
    have b2003 := iv15_10 hS1990.1 ta0 c2002
    obtain ⟨v2004, c2005⟩ : ∃ v, I1983 a0 11 = v := ⟨_, rfl⟩
    obtain ⟨y2006, c2007⟩ : ∃ v, L1985 a0 15 = v := ⟨_, rfl⟩
    obtain ⟨v2008, c2009⟩ : ∃ v, I1983 a0 12 = v := ⟨_, rfl⟩
    obtain ⟨v2010, c2011⟩ : ∃ v, I1983 a0 8 = v := ⟨_, rfl⟩
    have b2012 := iv15_8 hS1990.1 ta0 c2011
    exact ⟨rfl, rfl, rfl, rfl, rfl, hS1990, (fun dr hd => (Option.some.inj (d2.symm.trans hd)) ▸ hO1993), (Or.inr (⟨(by first | done | with_reducible assumption | exact om_c731b21c eF), (by (try rw [c1995]); first | done | with_reducible assumption | omega), (by (try rw [c1998]); first | done | with_reducible assumption | exact om_7262b70c h1957 p1965 p1988 eF), (by (try rw [c2000]); first | done | with_reducible assumption | exact om_3efc13ef p11 p1966 p1989 eP), trivial⟩)), trivial⟩
