set_option maxHeartbeats 4000000 in
theorem fk_X11_find {l : Launch} {T : Nat → Nat} {cn : Nat} {K N : Nat → Nat} {I0 : cz_I} {R0 : cz_R} {L0 : cz_L} {d : Int} (hW0 : Wf T cn K N I0 R0 d) (gw : Int) {a0 : Nat} (ta0 : T a0 = 14) {y1 : Int64} (pre0 : y1.toInt = (gw)) : ConE l mX11_find [.ref a0, .long y1] cn K N I0 R0 L0 (ca_i (fun v cn' K' N' I' R' L' => cn = cn' ∧ K = K' ∧ N = N' ∧ I0 = I' ∧ R0 = R' ∧ L0 = L' ∧ ((-1) ≤ v.toInt ∧ v.toInt ≤ 12) ∧ (FdM L0 R0 a0 (I0 a0 7).toInt gw v) ∧ True)) := by
  refine ConE.of (by decide +kernel) rfl (Nat.le_of_ble_eq_true rfl) rfl (fun X hX hZ hE => ?_)
  subst hX
  have p1 := pre0
  obtain ⟨a2, d3, ta2⟩ := rf14_30 hW0 ta0
  refine q_iconst dX11_find_0 (by decide) ?_
  intro v4 h5
  refine tr_istore_n dX11_find_1 (by decide) (by decide) ?_
  have lp13 : ∀ (fu : Nat) (ls : Nat → Option Value) (v6 : Int32), ls 0 = some (.ref a0) → ls 1 = some (.long y1) → ls 3 = some (.int v6) → 0 ≤ v6.toInt → v6.toInt ≤ 13 → (∀ k : Nat, (k : Int) < v6.toInt → (L0 a2 k).toInt ≠ gw) → (-v6.toInt + 2147483647).toNat < fu → Tr X mX11_find 2 ls [] cn K N I0 R0 L0 0 0 := by
    intro fu
    induction fu with
    | zero => intros; rename_i hz; exact absurd hz (Nat.not_lt_zero _)
    | succ fu ih13 =>
      intro ls v6 hl7 hl8 hl9 g10 g11 rw12 hm13
      refine tr_iload_n dX11_find_2 hl9 ?_
      refine tr_aload_n dX11_find_3 hl7 ?_
      obtain ⟨v15, c16⟩ : ∃ v, I0 a0 7 = v := ⟨_, rfl⟩
      have b17 := iv14_7 hW0 ta0 c16
      refine q_getI dX11_find_4 fl11_83 (kR14 hW0 ta0) c16 ?_
      refine q_icmp_ge 29 dX11_find_7 (by decide) (fun h18 => ?_) (fun h18 => ?_)
      · skip
        refine q_iconst dX11_find_29 (by decide) ?_
        intro v19 h20
        exact tr_iret hZ dX11_find_30 rfl (by decide) (by decide) ⟨v19, rfl, rfl, rfl, rfl, rfl, rfl, rfl, (by omega), (fun t ht => by obtain rfl := Option.some.inj (d3.symm.trans ht); exact Or.inl ⟨by omega, fun k hk => rw12 k (by rw [c16] at hk; omega)⟩), trivial⟩
      · skip
        refine tr_aload_n dX11_find_10 hl7 ?_
        refine tr_getR dX11_find_11 fl11_73 (kR14 hW0 ta0) d3 ?_
        refine tr_iload_n dX11_find_14 hl9 ?_
        refine q_laldE dX11_find_15 (kR73 hW0 ta2) (ti_in (nR73 hW0 ta2) (by omega) (by omega)) ?_
        intro y21 c22
        refine tr_lload_n dX11_find_16 hl8 ?_
        refine q_lcmpNe 23 dX11_find_17 dX11_find_18 (by decide) (fun h23 => ?_) (fun h23 => ?_)
        · skip
          refine q_iincE dX11_find_23 hl9 (by decide) (by decide) (by intros; omega) ?_
          intro v24 h25
          refine tr_goto 2 dX11_find_26 (by decide) ?_
          exact ih13 _ v24 hl7 hl8 rfl (by omega) (by omega) (fun k hk => by by_cases q : (k : Int) < v6.toInt; exact rw12 k q; rw [show k = v6.toNatClampNeg by have q := ti_nat (i := v6) (by omega); omega, c22]; omega) (by omega)
        · skip
          refine tr_iload_n dX11_find_21 hl9 ?_
          exact tr_iret hZ dX11_find_22 rfl (by decide) (by decide) ⟨v6, rfl, rfl, rfl, rfl, rfl, rfl, rfl, (by omega), (fun t ht => by obtain rfl := Option.some.inj (d3.symm.trans ht); exact Or.inr ⟨by omega, by rw [c16]; omega, (congrArg Int64.toInt c22).trans (by omega)⟩), trivial⟩
  exact lp13 _ _ v4 rfl rfl rfl (by omega) (by omega) (fun k hk => by omega) (Nat.lt_succ_self _)
def wik_X12_readFresh : List Nat := [968, 969, 970, 971, 972, 973, 974]
def wrk_X12_readFresh : List Nat := []
def wlk_X12_readFresh : List Nat := [975]
set_option maxHeartbeats 4000000 in
theorem fk_X12_readFresh {l : Launch} {T : Nat → Nat} {cn : Nat} {K N : Nat → Nat} {I0 : cz_I} {R0 : cz_R} {L0 : cz_L} (hW0 : Wf T cn K N I0 R0 0) (gB : cz_B) (gs : Int) (gQ : Nat → Int) {a0 : Nat} (ta0 : T a0 = 15) (hT : ∀ t, R0 a0 5 = some t → Tx I0 t gB) (hN : ∀ b, R0 a0 4 = some b → NmM I0 R0 L0 b gQ) (pre0 : (I0 a0 9).toInt = (tkM gB gs)) (pre1 : (I0 a0 9).toInt ≤ 4) (pre2 : (I0 a0 10).toInt = (tkS gB gs)) (pre3 : (I0 a0 11).toInt = (tkG gB gs)) (pre4 : (AtW ((tkK gB gs)) ((L0 a0 15).toInt) ((tkW gB gs)))) (pre5 : (AtV ((tkK gB gs)) ((I0 a0 12).toInt) ((tkV gB gs)))) (pre6 : (AtN ((tkK gB gs)) ((I0 a0 8).toInt) ((tkN gB gs)))) (pre7 : (I0 a0 7).toInt = (gB.2)) (pre8 : ∀ b1, R0 a0 4 = some b1 → (I0 b1 3).toInt = (gQ 3)) (pre9 : ∀ b1, R0 a0 4 = some b1 → (I0 b1 4).toInt = (gQ 4)) (nn4 : ∃ b, R0 a0 4 = some b) : ConE l mX12_readFresh [.ref a0] cn K N I0 R0 L0 (ca_l (fun v cn' K' N' I' R' L' => cn = cn' ∧ K = K' ∧ N = N' ∧ R0 = R' ∧ St T cn K N 0 wik_X12_readFresh wrk_X12_readFresh I0 R0 I' R0 ∧ (((v.toInt = (tkW gB gs)) ∧ ((isN gB gs) = 1) ∧ ((tkK gB gs) = 1) ∧ ((nmI gQ 100 (gQ 3) (tkW gB gs)) = -1) ∧ ((nmI gQ 200 (gQ 4) (tkW gB gs)) = -1) ∧ ((I' a0 13).toInt = (I0 a0 13).toInt) ∧ ((I' a0 9).toInt = (tkM gB (tkN gB gs))) ∧ ((I' a0 9).toInt ≤ 4) ∧ ((I' a0 10).toInt = (tkS gB (tkN gB gs))) ∧ ((I' a0 11).toInt = (tkG gB (tkN gB gs))) ∧ ((AtW ((tkK gB (tkN gB gs))) ((L' a0 15).toInt) ((tkW gB (tkN gB gs))))) ∧ ((AtV ((tkK gB (tkN gB gs))) ((I' a0 12).toInt) ((tkV gB (tkN gB gs))))) ∧ ((AtN ((tkK gB (tkN gB gs))) ((I' a0 8).toInt) ((tkN gB (tkN gB gs))))) ∧ LgS T wlk_X12_readFresh L0 L' ∧ True) ∨ (((isN gB gs) ≠ 1) ∧ ((I' a0 9).toInt = 5) ∧ ((I' a0 13).toInt = 1) ∧ ((I' a0 14).toInt = (tkS gB gs)) ∧ True) ∨ (((isN gB gs) = 1) ∧ (((nmI gQ 100 (gQ 3) (tkW gB gs)) ≠ -1 ∨ (nmI gQ 200 (gQ 4) (tkW gB gs)) ≠ -1)) ∧ ((I' a0 9).toInt = 5) ∧ ((I' a0 13).toInt = 3) ∧ ((I' a0 14).toInt = (tkS gB gs)) ∧ True)) ∧ True)) := by
  refine ConE.of (by decide +kernel) rfl (Nat.le_of_ble_eq_true rfl) rfl (fun X hX hZ hE => ?_)
  subst hX
  have hS0 : St T cn K N 0 wik_X12_readFresh wrk_X12_readFresh I0 R0 I0 R0 := St.rf0 hW0
  have hL0 : LgS T wlk_X12_readFresh L0 L0 := LgS.rf0
  obtain ⟨a1, d2⟩ := nn4
  have ta1 : T a1 = 14 := hW0.rsN ta0 rfl d2
  obtain ⟨v3, c4⟩ : ∃ v, I0 a0 9 = v := ⟨_, rfl⟩
  have b5 := iv15_9 hS0.1 ta0 c4
  have p6 := pre0
  rw [c4] at p6
  have p7 := pre1
  rw [c4] at p7
  obtain ⟨v8, c9⟩ : ∃ v, I0 a0 10 = v := ⟨_, rfl⟩
  have b10 := iv15_10 hS0.1 ta0 c9
  have p11 := pre2
  rw [c9] at p11
  obtain ⟨v12, c13⟩ : ∃ v, I0 a0 11 = v := ⟨_, rfl⟩
  have p14 := pre3
  rw [c13] at p14
  obtain ⟨y15, c16⟩ : ∃ v, L0 a0 15 = v := ⟨_, rfl⟩
  have p17 := pre4
  rw [c16] at p17
  obtain ⟨v18, c19⟩ : ∃ v, I0 a0 12 = v := ⟨_, rfl⟩
  have p20 := pre5
  rw [c19] at p20
  obtain ⟨v21, c22⟩ : ∃ v, I0 a0 8 = v := ⟨_, rfl⟩
  have b23 := iv15_8 hS0.1 ta0 c22
  have p24 := pre6
  rw [c22] at p24
  obtain ⟨v25, c26⟩ : ∃ v, I0 a0 7 = v := ⟨_, rfl⟩
  have b27 := iv15_7 hW0 ta0 c26
  have p28 := pre7
  rw [c26] at p28
  obtain ⟨v29, c30⟩ : ∃ v, I0 a1 3 = v := ⟨_, rfl⟩
  have b31 := iv14_3 hW0 ta1 c30
  have p32 := pre8 _ d2
  rw [c30] at p32
  obtain ⟨v33, c34⟩ : ∃ v, I0 a1 4 = v := ⟨_, rfl⟩
  have b35 := iv14_4 hW0 ta1 c34
  have p36 := pre9 _ d2
  rw [c34] at p36
  obtain ⟨v37, c38⟩ : ∃ v, I0 a0 13 = v := ⟨_, rfl⟩
  have hM0 := hN _ d2
  refine tr_aload_n dX12_readFresh_0 rfl ?_
  refine q_callVi hE (M' := mX12_isName) (as := []) dX12_readFresh_1 lk12_197 inX12_isName seX12_isName myX12_isName (by decide) ⟨by decide, by decide⟩ rfl (kR15 hS0.1 ta0) (Nat.le_of_ble_eq_true rfl) rfl rfl (by decide) (by decide) (fk_X12_isName hS0.1 (gB) (gs) ta0 (by (try rw [c4]); first | done | with_reducible assumption | omega) (by (try rw [c16]); first | done | assumption)) ?_
  rintro v44 cn' K' N' I39 R40 L41 ⟨rfl, rfl, rfl, rfl, rfl, rfl, h45, dj46, -⟩
  rcases dj46 with ⟨p47, p48, p49, -⟩ | ⟨p50, p51, -⟩
  · skip
    refine q_if_ne 12 dX12_readFresh_4 (by decide) (fun h52 => ?_) (fun h52 => ?_)
    · skip
      refine tr_aload_n dX12_readFresh_12 rfl ?_
      refine tr_getR dX12_readFresh_13 fl12_188 (kR15 hS0.1 ta0) d2 ?_
      refine tr_aload_n dX12_readFresh_16 rfl ?_
      have p53 := p17 (by omega)
      refine q_getLE dX12_readFresh_17 fl12_118 (kR15 hS0.1 ta0) c16 ?_
      refine q_callVi hE (M' := mX11_find) (as := [_]) dX12_readFresh_20 lk12_201 inX11_find seX11_find myX11_find (by decide) ⟨by decide, by decide⟩ rfl (kR14 hS0.1 ta1) (Nat.le_of_ble_eq_true rfl) rfl rfl (by decide) (by decide) (fk_X11_find hS0.1 ((tkW gB gs)) ta1 (by first | done | with_reducible assumption | omega)) ?_
      rintro v59 cn' K' N' I54 R55 L56 ⟨rfl, rfl, rfl, rfl, rfl, rfl, h60, rp61, -⟩
      obtain ⟨v64, c65⟩ : ∃ v, I0 a1 7 = v := ⟨_, rfl⟩
      have b66 := iv14_7 hW0 ta1 c65
      have p63 := hS0.1.2.2.2.2.1 a0 ta0 _ d2
      rw [c65, c30, c34] at p63
      have fd62 := fd_told hM0 hS0.1 ta1 rp61 (by rw [c65]; omega)
      rw [c65] at fd62
      refine q_iconst dX12_readFresh_23 (by decide) ?_
      intro v67 h68
      refine q_icmp_eq 32 dX12_readFresh_24 (by decide) (fun h69 => ?_) (fun h69 => ?_)
      · skip
        refine tr_aload_n dX12_readFresh_32 rfl ?_
        refine q_getLE dX12_readFresh_33 fl12_118 (kR15 hS0.1 ta0) c16 ?_
        refine tr_lstore_n dX12_readFresh_36 (by decide) (by decide) (by decide) ?_
        refine tr_aload_n dX12_readFresh_37 rfl ?_
        have p70 := p24 (by omega)
        refine q_callVv hE (M' := mX12_goesOn) (as := []) dX12_readFresh_38 lk12_142 inX12_goesOn seX12_goesOn myX12_goesOn (by decide) ⟨by decide, by decide⟩ rfl (kR15 hS0.1 ta0) (Nat.le_of_ble_eq_true rfl) rfl rfl (by decide) (by decide) (fk_X12_goesOn hS0.1 (gB) ((tkN gB gs)) ta0 (TxA.kp hT hS0 ta0 rfl rfl rfl (by decide +kernel) (by decide +kernel)) (by (try rw [c22]); first | done | with_reducible assumption | omega) (by (try rw [c26]); first | done | with_reducible assumption | omega) (by (try rw [c4]); first | done | with_reducible assumption | omega)) ?_
        rintro cn' K' N' I71 R72 L73 ⟨rfl, rfl, rfl, rfl, g74, gl75, p77, p78, p79, p80, p81, p82, p83, -⟩
        have hM84 : NmM I71 R0 L0 a1 gQ := NmM.kpS hM0 g74 hS0.1 ta1 (by decide +kernel) (by decide +kernel)
        have hS85 := hS0.tr g74 (by decide +kernel) (by decide +kernel)
        have c86 : I71 a0 13 = v37 := (g74.cell ta0 (by decide +kernel)).trans c38
        have hL87 := hL0.tr gl75 (by decide +kernel)
        have hM88 : NmM I71 R0 L73 a1 gQ := NmM.kpL hM84 gl75 hS85.1 ta1 (by decide +kernel)
        obtain ⟨v89, c90⟩ : ∃ v, I71 a0 9 = v := ⟨_, rfl⟩
        have b91 := iv15_9 hS85.1 ta0 c90
        rw [c90] at p77
        rw [c90] at p78
        obtain ⟨v92, c93⟩ : ∃ v, I71 a0 10 = v := ⟨_, rfl⟩
        have b94 := iv15_10 hS85.1 ta0 c93
        rw [c93] at p79
        obtain ⟨v95, c96⟩ : ∃ v, I71 a0 11 = v := ⟨_, rfl⟩
        rw [c96] at p80
        obtain ⟨y97, c98⟩ : ∃ v, L73 a0 15 = v := ⟨_, rfl⟩
        rw [c98] at p81
        obtain ⟨v99, c100⟩ : ∃ v, I71 a0 12 = v := ⟨_, rfl⟩
        rw [c100] at p82
        obtain ⟨v101, c102⟩ : ∃ v, I71 a0 8 = v := ⟨_, rfl⟩
        have b103 := iv15_8 hS85.1 ta0 c102
        rw [c102] at p83
        refine tr_lload_n dX12_readFresh_41 rfl ?_
        obtain ⟨v104, c105⟩ : ∃ v, I71 a0 14 = v := ⟨_, rfl⟩
        exact tr_lret hZ dX12_readFresh_42 rfl (by decide) (by decide) ⟨y15, rfl, rfl, rfl, rfl, rfl, hS85, (Or.inl ⟨(by first | done | with_reducible assumption | omega), (by first | done | with_reducible assumption | omega), (by first | done | with_reducible assumption | omega), (by first | done | with_reducible assumption | omega), (by first | done | with_reducible assumption | omega), (by (try rw [c86]); (try rw [c38]); first | done | with_reducible assumption | omega), (by (try rw [c90]); first | done | with_reducible assumption | omega), (by (try rw [c90]); first | done | with_reducible assumption | omega), (by (try rw [c93]); first | done | with_reducible assumption | omega), (by (try rw [c96]); first | done | with_reducible assumption | omega), (by (try rw [c98]); first | done | assumption), (by (try rw [c100]); first | done | assumption), (by (try rw [c102]); first | done | assumption), hL87, trivial⟩), trivial⟩
      · skip
        refine tr_aload_n dX12_readFresh_27 rfl ?_
        refine q_iconst dX12_readFresh_28 (by decide) ?_
        intro v106 h107
        refine q_callVv hE (M' := mX12_flaw) (as := [_]) dX12_readFresh_29 lk12_145 inX12_flaw seX12_flaw myX12_flaw (by decide) ⟨by decide, by decide⟩ rfl (kR15 hS0.1 ta0) (Nat.le_of_ble_eq_true rfl) rfl rfl (by decide) (by decide) (fk_X12_flaw hS0.1  ta0 (by omega) (by (try rw [c4]); first | done | with_reducible assumption | omega)) ?_
        rintro cn' K' N' I108 R109 L110 ⟨rfl, rfl, rfl, rfl, rfl, g111, p114, p115, p116, -⟩
        have hM117 : NmM I108 R0 L0 a1 gQ := NmM.kpS hM0 g111 hS0.1 ta1 (by decide +kernel) (by decide +kernel)
        have hS118 := hS0.tr g111 (by decide +kernel) (by decide +kernel)
        have c119 : I108 a0 10 = v8 := (g111.cell ta0 (by decide +kernel)).trans c9
        have c120 : I108 a0 11 = v12 := (g111.cell ta0 (by decide +kernel)).trans c13
        have c121 : I108 a0 12 = v18 := (g111.cell ta0 (by decide +kernel)).trans c19
        have c122 : I108 a0 8 = v21 := (g111.cell ta0 (by decide +kernel)).trans c22
        obtain ⟨v123, c124⟩ : ∃ v, I108 a0 9 = v := ⟨_, rfl⟩
        have b125 := iv15_9 hS118.1 ta0 c124
        rw [c124] at p114
        obtain ⟨v126, c127⟩ : ∃ v, I108 a0 13 = v := ⟨_, rfl⟩
        rw [c127] at p115
        obtain ⟨v128, c129⟩ : ∃ v, I108 a0 14 = v := ⟨_, rfl⟩
        rw [c129] at p116
        rw [c9] at p116
        refine tr_aload_n dX12_readFresh_32 rfl ?_
        refine q_getLE dX12_readFresh_33 fl12_118 (kR15 hS118.1 ta0) c16 ?_
        refine tr_lstore_n dX12_readFresh_36 (by decide) (by decide) (by decide) ?_
        refine tr_aload_n dX12_readFresh_37 rfl ?_
        refine q_callVv hE (M' := mX12_goesOn) (as := []) dX12_readFresh_38 lk12_142 inX12_goesOn seX12_goesOn myX12_goesOn (by decide) ⟨by decide, by decide⟩ rfl (kR15 hS118.1 ta0) (Nat.le_of_ble_eq_true rfl) rfl rfl (by decide) (by decide) (k_X12_goesOn hS118.1 ta0) ?_
        rintro cn' K' N' I130 R131 L132 ⟨rfl, rfl, rfl, rfl, g133, p135, p136, p137, w138, -⟩
        have hS139 := hS118.tr g133 (by decide +kernel) (by decide +kernel)
        have c140 : I130 a0 13 = v126 := (g133.cell ta0 (by decide +kernel)).trans c127
        have c141 : I130 a0 14 = v128 := (g133.cell ta0 (by decide +kernel)).trans c129
        obtain ⟨v142, c143⟩ : ∃ v, I130 a0 9 = v := ⟨_, rfl⟩
        have b144 := iv15_9 hS139.1 ta0 c143
        rw [c124] at p135
        rw [c143] at p135
        rw [c124] at p136
        rw [c143] at p136
        obtain ⟨v145, c146⟩ : ∃ v, I130 a0 8 = v := ⟨_, rfl⟩
        have b147 := iv15_8 hS139.1 ta0 c146
        rw [c146] at p137
        rw [c122] at p137
        rw [c140] at p137
        rw [c127] at p137
        have ov148 := w138.over (by rw [c124]; omega)
        obtain ⟨v149, c150⟩ : ∃ v, I130 a0 9 = v := ⟨_, rfl⟩
        have b151 := iv15_9 hS139.1 ta0 c150
        obtain ⟨v152, c153⟩ : ∃ v, I130 a0 13 = v := ⟨_, rfl⟩
        obtain ⟨v154, c155⟩ : ∃ v, I130 a0 14 = v := ⟨_, rfl⟩
        (try rw [c150] at ov148)
        (try rw [c153] at ov148)
        (try rw [c155] at ov148)
        (try rw [c124] at ov148)
        (try rw [c127] at ov148)
        (try rw [c129] at ov148)
        refine tr_lload_n dX12_readFresh_41 rfl ?_
        obtain ⟨v156, c157⟩ : ∃ v, I130 a0 10 = v := ⟨_, rfl⟩
        have b158 := iv15_10 hS139.1 ta0 c157
        obtain ⟨v159, c160⟩ : ∃ v, I130 a0 11 = v := ⟨_, rfl⟩
        obtain ⟨y161, c162⟩ : ∃ v, L132 a0 15 = v := ⟨_, rfl⟩
        obtain ⟨v163, c164⟩ : ∃ v, I130 a0 12 = v := ⟨_, rfl⟩
        exact tr_lret hZ dX12_readFresh_42 rfl (by decide) (by decide) ⟨y15, rfl, rfl, rfl, rfl, rfl, hS139, (Or.inr (Or.inr (⟨(by first | done | with_reducible assumption | omega), (by first | done | with_reducible assumption | omega), (by (try rw [c150]); first | done | with_reducible assumption | omega), (by (try rw [c153]); first | done | with_reducible assumption | omega), (by (try rw [c155]); first | done | with_reducible assumption | omega), trivial⟩))), trivial⟩
    · skip
      exfalso; omega
  · skip
    refine q_if_ne 12 dX12_readFresh_4 (by decide) (fun h165 => ?_) (fun h165 => ?_)
    · skip
      exfalso; omega
    · skip
      refine tr_aload_n dX12_readFresh_7 rfl ?_
      refine q_iconst dX12_readFresh_8 (by decide) ?_
      intro v166 h167
      refine q_callVv hE (M' := mX12_flaw) (as := [_]) dX12_readFresh_9 lk12_145 inX12_flaw seX12_flaw myX12_flaw (by decide) ⟨by decide, by decide⟩ rfl (kR15 hS0.1 ta0) (Nat.le_of_ble_eq_true rfl) rfl rfl (by decide) (by decide) (fk_X12_flaw hS0.1  ta0 (by omega) (by (try rw [c4]); first | done | with_reducible assumption | omega)) ?_
      rintro cn' K' N' I168 R169 L170 ⟨rfl, rfl, rfl, rfl, rfl, g171, p174, p175, p176, -⟩
      have hM177 : NmM I168 R0 L0 a1 gQ := NmM.kpS hM0 g171 hS0.1 ta1 (by decide +kernel) (by decide +kernel)
      have hS178 := hS0.tr g171 (by decide +kernel) (by decide +kernel)
      have c179 : I168 a0 10 = v8 := (g171.cell ta0 (by decide +kernel)).trans c9
      have c180 : I168 a0 11 = v12 := (g171.cell ta0 (by decide +kernel)).trans c13
      have c181 : I168 a0 12 = v18 := (g171.cell ta0 (by decide +kernel)).trans c19
      have c182 : I168 a0 8 = v21 := (g171.cell ta0 (by decide +kernel)).trans c22
      obtain ⟨v183, c184⟩ : ∃ v, I168 a0 9 = v := ⟨_, rfl⟩
      have b185 := iv15_9 hS178.1 ta0 c184
      rw [c184] at p174
      obtain ⟨v186, c187⟩ : ∃ v, I168 a0 13 = v := ⟨_, rfl⟩
      rw [c187] at p175
      obtain ⟨v188, c189⟩ : ∃ v, I168 a0 14 = v := ⟨_, rfl⟩
      rw [c189] at p176
      rw [c9] at p176
      refine tr_aload_n dX12_readFresh_12 rfl ?_
      refine tr_getR dX12_readFresh_13 fl12_188 (kR15 hS178.1 ta0) d2 ?_
      refine tr_aload_n dX12_readFresh_16 rfl ?_
      refine q_getLE dX12_readFresh_17 fl12_118 (kR15 hS178.1 ta0) c16 ?_
      refine q_callVi hE (M' := mX11_find) (as := [_]) dX12_readFresh_20 lk12_201 inX11_find seX11_find myX11_find (by decide) ⟨by decide, by decide⟩ rfl (kR14 hS178.1 ta1) (Nat.le_of_ble_eq_true rfl) rfl rfl (by decide) (by decide) (k_X11_find hS178.1 ta1) ?_
      rintro v194 cn' K' N' I190 R191 L192 ⟨rfl, rfl, rfl, rfl, rfl, rfl, h195, -⟩
      refine q_iconst dX12_readFresh_23 (by decide) ?_
      intro v196 h197
      refine q_icmp_eq 32 dX12_readFresh_24 (by decide) (fun h198 => ?_) (fun h198 => ?_)
      · skip
        refine tr_aload_n dX12_readFresh_32 rfl ?_
        refine q_getLE dX12_readFresh_33 fl12_118 (kR15 hS178.1 ta0) c16 ?_
        refine tr_lstore_n dX12_readFresh_36 (by decide) (by decide) (by decide) ?_
        refine tr_aload_n dX12_readFresh_37 rfl ?_
        refine q_callVv hE (M' := mX12_goesOn) (as := []) dX12_readFresh_38 lk12_142 inX12_goesOn seX12_goesOn myX12_goesOn (by decide) ⟨by decide, by decide⟩ rfl (kR15 hS178.1 ta0) (Nat.le_of_ble_eq_true rfl) rfl rfl (by decide) (by decide) (k_X12_goesOn hS178.1 ta0) ?_
        rintro cn' K' N' I199 R200 L201 ⟨rfl, rfl, rfl, rfl, g202, p204, p205, p206, w207, -⟩
        have hS208 := hS178.tr g202 (by decide +kernel) (by decide +kernel)
        have c209 : I199 a0 13 = v186 := (g202.cell ta0 (by decide +kernel)).trans c187
        have c210 : I199 a0 14 = v188 := (g202.cell ta0 (by decide +kernel)).trans c189
        obtain ⟨v211, c212⟩ : ∃ v, I199 a0 9 = v := ⟨_, rfl⟩
        have b213 := iv15_9 hS208.1 ta0 c212
        rw [c184] at p204
        rw [c212] at p204
        rw [c184] at p205
        rw [c212] at p205
        obtain ⟨v214, c215⟩ : ∃ v, I199 a0 8 = v := ⟨_, rfl⟩
        have b216 := iv15_8 hS208.1 ta0 c215
        rw [c215] at p206
        rw [c182] at p206
        rw [c209] at p206
        rw [c187] at p206
        have ov217 := w207.over (by rw [c184]; omega)
        obtain ⟨v218, c219⟩ : ∃ v, I199 a0 9 = v := ⟨_, rfl⟩
        have b220 := iv15_9 hS208.1 ta0 c219
        obtain ⟨v221, c222⟩ : ∃ v, I199 a0 13 = v := ⟨_, rfl⟩
        obtain ⟨v223, c224⟩ : ∃ v, I199 a0 14 = v := ⟨_, rfl⟩
        (try rw [c219] at ov217)
        (try rw [c222] at ov217)
        (try rw [c224] at ov217)
        (try rw [c184] at ov217)
        (try rw [c187] at ov217)
        (try rw [c189] at ov217)
        refine tr_lload_n dX12_readFresh_41 rfl ?_
        obtain ⟨v225, c226⟩ : ∃ v, I199 a0 10 = v := ⟨_, rfl⟩
        have b227 := iv15_10 hS208.1 ta0 c226
        obtain ⟨v228, c229⟩ : ∃ v, I199 a0 11 = v := ⟨_, rfl⟩
        obtain ⟨y230, c231⟩ : ∃ v, L201 a0 15 = v := ⟨_, rfl⟩
        obtain ⟨v232, c233⟩ : ∃ v, I199 a0 12 = v := ⟨_, rfl⟩
        exact tr_lret hZ dX12_readFresh_42 rfl (by decide) (by decide) ⟨y15, rfl, rfl, rfl, rfl, rfl, hS208, (Or.inr (Or.inl ⟨(by first | done | with_reducible assumption | omega), (by (try rw [c219]); first | done | with_reducible assumption | omega), (by (try rw [c222]); first | done | with_reducible assumption | omega), (by (try rw [c224]); first | done | with_reducible assumption | omega), trivial⟩)), trivial⟩
      · skip
        refine tr_aload_n dX12_readFresh_27 rfl ?_
        refine q_iconst dX12_readFresh_28 (by decide) ?_
        intro v234 h235
        refine q_callVv hE (M' := mX12_flaw) (as := [_]) dX12_readFresh_29 lk12_145 inX12_flaw seX12_flaw myX12_flaw (by decide) ⟨by decide, by decide⟩ rfl (kR15 hS178.1 ta0) (Nat.le_of_ble_eq_true rfl) rfl rfl (by decide) (by decide) (k_X12_flaw hS178.1 ta0 (by omega)) ?_
        rintro cn' K' N' I236 R237 L238 ⟨rfl, rfl, rfl, rfl, rfl, g239, p241, p242, w243, -⟩
        have hS244 := hS178.tr g239 (by decide +kernel) (by decide +kernel)
        have c245 : I236 a0 10 = v8 := (g239.cell ta0 (by decide +kernel)).trans c179
        have c246 : I236 a0 11 = v12 := (g239.cell ta0 (by decide +kernel)).trans c180
        have c247 : I236 a0 12 = v18 := (g239.cell ta0 (by decide +kernel)).trans c181
        have c248 : I236 a0 8 = v21 := (g239.cell ta0 (by decide +kernel)).trans c182
        obtain ⟨v249, c250⟩ : ∃ v, I236 a0 9 = v := ⟨_, rfl⟩
        have b251 := iv15_9 hS244.1 ta0 c250
        rw [c250] at p241
        rw [c248] at p242
        rw [c182] at p242
        have ov252 := w243.over (by rw [c184]; omega)
        obtain ⟨v253, c254⟩ : ∃ v, I236 a0 9 = v := ⟨_, rfl⟩
        have b255 := iv15_9 hS244.1 ta0 c254
        obtain ⟨v256, c257⟩ : ∃ v, I236 a0 13 = v := ⟨_, rfl⟩
        obtain ⟨v258, c259⟩ : ∃ v, I236 a0 14 = v := ⟨_, rfl⟩
        (try rw [c254] at ov252)
        (try rw [c257] at ov252)
        (try rw [c259] at ov252)
        (try rw [c184] at ov252)
        (try rw [c187] at ov252)
        (try rw [c189] at ov252)
        refine tr_aload_n dX12_readFresh_32 rfl ?_
        refine q_getLE dX12_readFresh_33 fl12_118 (kR15 hS244.1 ta0) c16 ?_
        refine tr_lstore_n dX12_readFresh_36 (by decide) (by decide) (by decide) ?_
        refine tr_aload_n dX12_readFresh_37 rfl ?_
        refine q_callVv hE (M' := mX12_goesOn) (as := []) dX12_readFresh_38 lk12_142 inX12_goesOn seX12_goesOn myX12_goesOn (by decide) ⟨by decide, by decide⟩ rfl (kR15 hS244.1 ta0) (Nat.le_of_ble_eq_true rfl) rfl rfl (by decide) (by decide) (k_X12_goesOn hS244.1 ta0) ?_
        rintro cn' K' N' I260 R261 L262 ⟨rfl, rfl, rfl, rfl, g263, p265, p266, p267, w268, -⟩
        have hS269 := hS244.tr g263 (by decide +kernel) (by decide +kernel)
        have c270 : I260 a0 13 = v256 := (g263.cell ta0 (by decide +kernel)).trans c257
        have c271 : I260 a0 14 = v258 := (g263.cell ta0 (by decide +kernel)).trans c259
        obtain ⟨v272, c273⟩ : ∃ v, I260 a0 9 = v := ⟨_, rfl⟩
        have b274 := iv15_9 hS269.1 ta0 c273
        rw [c254] at p265
        rw [c273] at p265
        rw [c254] at p266
        rw [c273] at p266
        obtain ⟨v275, c276⟩ : ∃ v, I260 a0 8 = v := ⟨_, rfl⟩
        have b277 := iv15_8 hS269.1 ta0 c276
        rw [c276] at p267
        rw [c248] at p267
        rw [c270] at p267
        rw [c257] at p267
        have ov278 := w268.over (by rw [c254]; omega)
        obtain ⟨v279, c280⟩ : ∃ v, I260 a0 9 = v := ⟨_, rfl⟩
        have b281 := iv15_9 hS269.1 ta0 c280
        obtain ⟨v282, c283⟩ : ∃ v, I260 a0 13 = v := ⟨_, rfl⟩
        obtain ⟨v284, c285⟩ : ∃ v, I260 a0 14 = v := ⟨_, rfl⟩
        (try rw [c280] at ov278)
        (try rw [c283] at ov278)
        (try rw [c285] at ov278)
        (try rw [c254] at ov278)
        (try rw [c257] at ov278)
        (try rw [c259] at ov278)
        refine tr_lload_n dX12_readFresh_41 rfl ?_
        obtain ⟨v286, c287⟩ : ∃ v, I260 a0 10 = v := ⟨_, rfl⟩
        have b288 := iv15_10 hS269.1 ta0 c287
        obtain ⟨v289, c290⟩ : ∃ v, I260 a0 11 = v := ⟨_, rfl⟩
        obtain ⟨y291, c292⟩ : ∃ v, L262 a0 15 = v := ⟨_, rfl⟩
        obtain ⟨v293, c294⟩ : ∃ v, I260 a0 12 = v := ⟨_, rfl⟩
        exact tr_lret hZ dX12_readFresh_42 rfl (by decide) (by decide) ⟨y15, rfl, rfl, rfl, rfl, rfl, hS269, (Or.inr (Or.inl ⟨(by first | done | with_reducible assumption | omega), (by (try rw [c280]); first | done | with_reducible assumption | omega), (by (try rw [c283]); first | done | with_reducible assumption | omega), (by (try rw [c285]); first | done | with_reducible assumption | omega), trivial⟩)), trivial⟩
def wik_X12_names : List Nat := [903, 4799, 4863]
def wrk_X12_names : List Nat := []
def wlk_X12_names : List Nat := [4735]
set_option maxHeartbeats 4000000 in
theorem fk_X12_names {l : Launch} {T : Nat → Nat} {cn : Nat} {K N : Nat → Nat} {I0 : cz_I} {R0 : cz_R} {L0 : cz_L} (hW0 : Wf T cn K N I0 R0 0)  {a0 : Nat} (ta0 : T a0 = 15) {y1 : Int64} {x2 : Int32} {x3 : Int32} (pre0 : ∀ b1, R0 a0 4 = some b1 → (I0 b1 7).toInt ≤ 12) (nn4 : ∃ b, R0 a0 4 = some b) : ConE l mX12_names [.ref a0, .long y1, .int x2, .int x3] cn K N I0 R0 L0 (ca_v (fun cn' K' N' I' R' L' => cn = cn' ∧ K = K' ∧ N = N' ∧ R0 = R' ∧ St T cn K N 1 wik_X12_names wrk_X12_names I0 R0 I' R0 ∧ LgS T wlk_X12_names L0 L' ∧ (∀ b, R0 a0 4 = some b → NaW I0 R0 L0 b y1 x2 x3 I' L') ∧ (∀ dr, R0 a0 4 = some dr → FrO 14 dr T I0 I') ∧ True)) := by
  refine ConE.of (by decide +kernel) rfl (Nat.le_of_ble_eq_true rfl) rfl (fun X hX hZ hE => ?_)
  subst hX
  have hS0 : St T cn K N 0 wik_X12_names wrk_X12_names I0 R0 I0 R0 := St.rf0 hW0
  have hL0 : LgS T wlk_X12_names L0 L0 := LgS.rf0
  obtain ⟨a1, d2⟩ := nn4
  have ta1 : T a1 = 14 := hW0.rsN ta0 rfl d2
  obtain ⟨v3, c4⟩ : ∃ v, I0 a1 7 = v := ⟨_, rfl⟩
  have b5 := iv14_7 hS0.1 ta1 c4
  have p6 := pre0 _ d2
  rw [c4] at p6
  have hO0 : FrO 14 a1 T I0 I0 := FrO.rf
  refine tr_aload_n dX12_names_0 rfl ?_
  refine tr_getR dX12_names_1 fl12_188 (kR15 hS0.1 ta0) d2 ?_
  obtain ⟨a7, d8, ta7⟩ := rf14_30 hW0 ta1
  refine tr_getR dX12_names_4 fl12_205 (kR14 hS0.1 ta1) d8 ?_
  refine tr_aload_n dX12_names_7 rfl ?_
  refine tr_getR dX12_names_8 fl12_188 (kR15 hS0.1 ta0) d2 ?_
  refine q_getI dX12_names_11 fl12_209 (kR14 hS0.1 ta1) c4 ?_
  refine tr_lload_n dX12_names_14 rfl ?_
  refine q_lastE dX12_names_15 (kR73 hS0.1 ta7) (ti_in (nR73 hS0.1 ta7) (by omega) (by omega)) hL0 ta7 (by rfl) ?_
  intro L9 hL10 e11 f12
  refine tr_aload_n dX12_names_16 rfl ?_
  refine tr_getR dX12_names_17 fl12_188 (kR15 hS0.1 ta0) d2 ?_
  obtain ⟨a13, d14, ta13⟩ := rf14_31 hW0 ta1
  refine tr_getR dX12_names_20 fl12_212 (kR14 hS0.1 ta1) d14 ?_
  refine tr_aload_n dX12_names_23 rfl ?_
  refine tr_getR dX12_names_24 fl12_188 (kR15 hS0.1 ta0) d2 ?_
  refine q_getI dX12_names_27 fl12_209 (kR14 hS0.1 ta1) c4 ?_
  refine tr_iload_n dX12_names_30 rfl ?_
  refine q_iast dX12_names_31 (kR74 hS0.1 ta13) (ti_in (nR74 hS0.1 ta13) (by omega) (by omega)) hS0 ta13 (iokF rfl) rfl (by rfl) ?_
  intro I15 hS16 e18 f17
  have c19 : I15 a1 7 = v3 := (f17 _ _ (fun q => by have z := ta1; rw [q.1, ta13] at z; exact absurd z (by decide))).trans c4
  have hO20 : FrO 14 a1 T I0 I15 := hO0.put f17 ta13 (Or.inl (by decide))
  refine tr_aload_n dX12_names_32 rfl ?_
  refine tr_getR dX12_names_33 fl12_188 (kR15 hS16.1 ta0) d2 ?_
  obtain ⟨a21, d22, ta21⟩ := rf14_32 hW0 ta1
  refine tr_getR dX12_names_36 fl12_215 (kR14 hS16.1 ta1) d22 ?_
  refine tr_aload_n dX12_names_39 rfl ?_
  refine tr_getR dX12_names_40 fl12_188 (kR15 hS16.1 ta0) d2 ?_
  refine q_getI dX12_names_43 fl12_209 (kR14 hS16.1 ta1) c19 ?_
  refine tr_iload dX12_names_46 rfl ?_
  refine q_iast dX12_names_48 (kR75 hS16.1 ta21) (ti_in (nR75 hS16.1 ta21) (by omega) (by omega)) hS16 ta21 (iokF rfl) rfl (by rfl) ?_
  intro I23 hS24 e26 f25
  have c27 : I23 a1 7 = v3 := (f25 _ _ (fun q => by have z := ta1; rw [q.1, ta21] at z; exact absurd z (by decide))).trans c19
  have hO28 : FrO 14 a1 T I0 I23 := hO20.put f25 ta21 (Or.inl (by decide))
  refine tr_aload_n dX12_names_49 rfl ?_
  refine tr_getR dX12_names_50 fl12_188 (kR15 hS24.1 ta0) d2 ?_
  refine tr_dup dX12_names_53 rfl ?_
  refine q_getI dX12_names_54 fl12_209 (kR14 hS24.1 ta1) c27 ?_
  refine q_iconst dX12_names_57 (by decide) ?_
  intro v29 h30
  refine q_iaddE dX12_names_58 (by intros; omega) ?_
  intro v31 h32
  refine q_putX dX12_names_59 fl12_209 (kR14 hS24.1 ta1) (Or.inl rfl) hS24 ta1 (by decide +kernel) (hS24.1.putN (d' := 1) ta0 d2 (Or.inl rfl) (by rw [c27]; omega) (by decide) (by show (0 : Int) ≤ v31.toInt ∧ v31.toInt ≤ (13 : Int); omega)) ?_
  intro I33 hS34 e35 f36
  have hO37 : FrO 14 a1 T I0 I33 := hO28.put f36 ta1 (Or.inr rfl)
  exact tr_vret hZ dX12_names_62 rfl (by decide) (by decide) ⟨rfl, rfl, rfl, rfl, rfl, hS34, hL10, (fun b hb => by obtain rfl := Option.some.inj (d2.symm.trans hb); exact (fun t u w ht hu hw k => by
      obtain rfl := Option.some.inj (d8.symm.trans ht)
      obtain rfl := Option.some.inj (d14.symm.trans hu)
      obtain rfl := Option.some.inj (d22.symm.trans hw)
      have en := ti_nat (i := v3) (by omega)
      rw [c4]
      refine ⟨fun hk => ?_, fun hk => ?_⟩
      · obtain rfl : k = v3.toNatClampNeg := by omega
        exact ⟨e11, (f36 _ _ (fun q => by have z := ta13; rw [q.1, ta1] at z; exact absurd z (by decide))).trans ((f25 _ _ (fun q => by have z := ta13; rw [q.1, ta21] at z; exact absurd z (by decide))).trans e18), (f36 _ _ (fun q => by have z := ta21; rw [q.1, ta1] at z; exact absurd z (by decide))).trans e26⟩
      · have hk2 : ¬ k = v3.toNatClampNeg := by omega
        exact ⟨f12 _ _ (fun q => hk2 q.2), (f36 _ _ (fun q => by have z := ta13; rw [q.1, ta1] at z; exact absurd z (by decide))).trans ((f25 _ _ (fun q => by have z := ta13; rw [q.1, ta21] at z; exact absurd z (by decide))).trans (f17 _ _ (fun q => hk2 q.2))), (f36 _ _ (fun q => by have z := ta21; rw [q.1, ta1] at z; exact absurd z (by decide))).trans ((f25 _ _ (fun q => hk2 q.2)).trans (f17 _ _ (fun q => by have z := ta21; rw [q.1, ta13] at z; exact absurd z (by decide))))⟩)), (fun dr hd => (Option.some.inj (d2.symm.trans hd)) ▸ hO37), trivial⟩
def wik_X12_readAlp : List Nat := [896, 897, 968, 969, 970, 971, 972, 973, 974, 3455]
def wrk_X12_readAlp : List Nat := []
def wlk_X12_readAlp : List Nat := [975]
set_option maxHeartbeats 4000000 in
theorem fk_X12_readAlp {l : Launch} {T : Nat → Nat} {cn : Nat} {K N : Nat → Nat} {I0 : cz_I} {R0 : cz_R} {L0 : cz_L} (hW0 : Wf T cn K N I0 R0 0) (gB : cz_B) (gs : Int) (gQ : Nat → Int) {a0 : Nat} (ta0 : T a0 = 15) (hT : ∀ t, R0 a0 5 = some t → Tx I0 t gB) (hN : ∀ b, R0 a0 4 = some b → NmM I0 R0 L0 b gQ) (pre0 : (I0 a0 9).toInt = (tkM gB gs)) (pre1 : (I0 a0 9).toInt ≤ 4) (pre2 : (I0 a0 10).toInt = (tkS gB gs)) (pre3 : (I0 a0 11).toInt = (tkG gB gs)) (pre4 : (AtW ((tkK gB gs)) ((L0 a0 15).toInt) ((tkW gB gs)))) (pre5 : (AtV ((tkK gB gs)) ((I0 a0 12).toInt) ((tkV gB gs)))) (pre6 : (AtN ((tkK gB gs)) ((I0 a0 8).toInt) ((tkN gB gs)))) (pre7 : (I0 a0 7).toInt = (gB.2)) (pre8 : ∀ b1, R0 a0 4 = some b1 → (I0 b1 0).toInt = (gQ 0)) (pre9 : ∀ b1, R0 a0 4 = some b1 → (I0 b1 1).toInt = (gQ 1)) (pre10 : ∀ b1, R0 a0 4 = some b1 → (I0 b1 2).toInt = (gQ 2)) (pre11 : ∀ b1, R0 a0 4 = some b1 → (I0 b1 3).toInt = (gQ 3)) (pre12 : ∀ b1, R0 a0 4 = some b1 → (I0 b1 4).toInt = (gQ 4)) (pre13 : ∀ b1, R0 a0 4 = some b1 → (I0 b1 5).toInt = (gQ 5)) (pre14 : ∀ b1, R0 a0 4 = some b1 → (I0 b1 6).toInt = (gQ 6)) (pre15 : ∀ b1, R0 a0 4 = some b1 → (I0 b1 9).toInt = (gQ 8)) (pre16 : (Q7M ((gQ 0)) ((gQ 7)))) (pre17 : (tkK gB gs) = 1) (pre18 : (srt gB gs) = 10) (nn4 : ∃ b, R0 a0 4 = some b) : ConE l mX12_readAlp [.ref a0] cn K N I0 R0 L0 (ca_v (fun cn' K' N' I' R' L' => cn = cn' ∧ K = K' ∧ N = N' ∧ R0 = R' ∧ St T cn K N 0 wik_X12_readAlp wrk_X12_readAlp I0 R0 I' R0 ∧ (∀ b, R0 a0 4 = some b → FrM R0 b T I0 I') ∧ (∀ dr, R0 a0 4 = some dr → FrO 14 dr T I0 I') ∧ ((((lnF gB gQ gs) = 0) ∧ (∀ b1, R0 a0 4 = some b1 → (I' b1 0).toInt = (lnQ gB gQ gs 0)) ∧ (∀ b1, R0 a0 4 = some b1 → (I' b1 1).toInt = (lnQ gB gQ gs 1)) ∧ (∀ b1, R0 a0 4 = some b1 → (I' b1 2).toInt = (lnQ gB gQ gs 2)) ∧ (∀ b1, R0 a0 4 = some b1 → (I' b1 3).toInt = (lnQ gB gQ gs 3)) ∧ (∀ b1, R0 a0 4 = some b1 → (I' b1 4).toInt = (lnQ gB gQ gs 4)) ∧ (∀ b1, R0 a0 4 = some b1 → (I' b1 5).toInt = (lnQ gB gQ gs 5)) ∧ (∀ b1, R0 a0 4 = some b1 → (I' b1 6).toInt = (lnQ gB gQ gs 6)) ∧ (∀ b1, R0 a0 4 = some b1 → (I' b1 9).toInt = (lnQ gB gQ gs 8)) ∧ ((I' a0 13).toInt = (I0 a0 13).toInt) ∧ ((I' a0 9).toInt = (tkM gB (lnS gB gQ gs))) ∧ ((I' a0 9).toInt ≤ 4) ∧ ((I' a0 10).toInt = (tkS gB (lnS gB gQ gs))) ∧ ((I' a0 11).toInt = (tkG gB (lnS gB gQ gs))) ∧ ((AtW ((tkK gB (lnS gB gQ gs))) ((L' a0 15).toInt) ((tkW gB (lnS gB gQ gs))))) ∧ ((AtV ((tkK gB (lnS gB gQ gs))) ((I' a0 12).toInt) ((tkV gB (lnS gB gQ gs))))) ∧ ((AtN ((tkK gB (lnS gB gQ gs))) ((I' a0 8).toInt) ((tkN gB (lnS gB gQ gs))))) ∧ LgS T wlk_X12_readAlp L0 L' ∧ (∀ b, R0 a0 4 = some b → NmM I' R0 L' b (lnQ gB gQ gs)) ∧ (∀ E b, R0 a0 4 = some b → AlM I0 R0 b gQ E → AlM I' R0 b (lnQ gB gQ gs) (lnE gB gQ gs E)) ∧ True) ∨ (((lnF gB gQ gs) ≠ 0) ∧ ((I' a0 9).toInt = 5) ∧ ((I' a0 13).toInt = (lnF gB gQ gs)) ∧ ((I' a0 14).toInt = (lnP gB gQ gs)) ∧ True)) ∧ True)) := by
  refine ConE.of (by decide +kernel) rfl (Nat.le_of_ble_eq_true rfl) rfl (fun X hX hZ hE => ?_)
  subst hX
  have hS0 : St T cn K N 0 wik_X12_readAlp wrk_X12_readAlp I0 R0 I0 R0 := St.rf0 hW0
  have hL0 : LgS T wlk_X12_readAlp L0 L0 := LgS.rf0
  obtain ⟨a1, d2⟩ := nn4
  have ta1 : T a1 = 14 := hW0.rsN ta0 rfl d2
  obtain ⟨v3, c4⟩ : ∃ v, I0 a0 9 = v := ⟨_, rfl⟩
  have b5 := iv15_9 hS0.1 ta0 c4
  have p6 := pre0
  rw [c4] at p6
  have p7 := pre1
  rw [c4] at p7
  obtain ⟨v8, c9⟩ : ∃ v, I0 a0 10 = v := ⟨_, rfl⟩
  have b10 := iv15_10 hS0.1 ta0 c9
  have p11 := pre2
  rw [c9] at p11
  obtain ⟨v12, c13⟩ : ∃ v, I0 a0 11 = v := ⟨_, rfl⟩
  have p14 := pre3
  rw [c13] at p14
  obtain ⟨y15, c16⟩ : ∃ v, L0 a0 15 = v := ⟨_, rfl⟩
  have p17 := pre4
  rw [c16] at p17
  obtain ⟨v18, c19⟩ : ∃ v, I0 a0 12 = v := ⟨_, rfl⟩
  have p20 := pre5
  rw [c19] at p20
  obtain ⟨v21, c22⟩ : ∃ v, I0 a0 8 = v := ⟨_, rfl⟩
  have b23 := iv15_8 hS0.1 ta0 c22
  have p24 := pre6
  rw [c22] at p24
  obtain ⟨v25, c26⟩ : ∃ v, I0 a0 7 = v := ⟨_, rfl⟩
  have b27 := iv15_7 hW0 ta0 c26
  have p28 := pre7
  rw [c26] at p28
  obtain ⟨v29, c30⟩ : ∃ v, I0 a1 0 = v := ⟨_, rfl⟩
  have b31 := iv14_0 hS0.1 ta1 c30
  have p32 := pre8 _ d2
  rw [c30] at p32
  obtain ⟨v33, c34⟩ : ∃ v, I0 a1 1 = v := ⟨_, rfl⟩
  have b35 := iv14_1 hS0.1 ta1 c34
  have p36 := pre9 _ d2
  rw [c34] at p36
  obtain ⟨v37, c38⟩ : ∃ v, I0 a1 2 = v := ⟨_, rfl⟩
  have b39 := iv14_2 hW0 ta1 c38
  have p40 := pre10 _ d2
  rw [c38] at p40
  obtain ⟨v41, c42⟩ : ∃ v, I0 a1 3 = v := ⟨_, rfl⟩
  have b43 := iv14_3 hW0 ta1 c42
  have p44 := pre11 _ d2
  rw [c42] at p44
  obtain ⟨v45, c46⟩ : ∃ v, I0 a1 4 = v := ⟨_, rfl⟩
  have b47 := iv14_4 hW0 ta1 c46
  have p48 := pre12 _ d2
  rw [c46] at p48
  obtain ⟨v49, c50⟩ : ∃ v, I0 a1 5 = v := ⟨_, rfl⟩
  have b51 := iv14_5 hW0 ta1 c50
  have p52 := pre13 _ d2
  rw [c50] at p52
  obtain ⟨v53, c54⟩ : ∃ v, I0 a1 6 = v := ⟨_, rfl⟩
  have b55 := iv14_6 hW0 ta1 c54
  have p56 := pre14 _ d2
  rw [c54] at p56
  obtain ⟨v57, c58⟩ : ∃ v, I0 a1 9 = v := ⟨_, rfl⟩
  have b59 := iv14_9 hW0 ta1 c58
  have p60 := pre15 _ d2
  rw [c58] at p60
  have p61 := pre16
  have p62 := pre17
  have p63 := pre18
  obtain ⟨v64, c65⟩ : ∃ v, I0 a0 13 = v := ⟨_, rfl⟩
  have hM0 := hN _ d2
  have hO0 : FrO 14 a1 T I0 I0 := FrO.rf
  obtain ⟨a66, d67, ta66⟩ := rf14_10 hW0 ta1
  have hF := lnF_ch gB gQ gs
  have hP := lnP_ch gB gQ gs
  replace hF := hF.neg (by omega)
  replace hP := hP.neg (by omega)
  refine tr_aload_n dX12_readAlp_0 rfl ?_
  refine tr_getR dX12_readAlp_1 fl12_188 (kR15 hS0.1 ta0) d2 ?_
  refine q_getI dX12_readAlp_4 fl12_192 (kR14 hS0.1 ta1) c30 ?_
  refine q_if_le 15 dX12_readAlp_7 (by decide) (fun h68 => ?_) (fun h68 => ?_)
  · skip
    have p69 := p61
    unfold Q7M at p69
    replace hF := hF.neg (by omega)
    replace hP := hP.neg (by omega)
    replace hF := hF.neg (by omega)
    replace hP := hP.neg (by omega)
    replace hF := hF.neg (by omega)
    replace hP := hP.neg (by omega)
    refine tr_aload_n dX12_readAlp_15 rfl ?_
    have p70 := p24 (by omega)
    refine q_callVv hE (M' := mX12_goesOn) (as := []) dX12_readAlp_16 lk12_142 inX12_goesOn seX12_goesOn myX12_goesOn (by decide) ⟨by decide, by decide⟩ rfl (kR15 hS0.1 ta0) (Nat.le_of_ble_eq_true rfl) rfl rfl (by decide) (by decide) (fk_X12_goesOn hS0.1 (gB) ((tkN gB gs)) ta0 (TxA.kp hT hS0 ta0 rfl rfl rfl (by decide +kernel) (by decide +kernel)) (by (try rw [c22]); first | done | with_reducible assumption | omega) (by (try rw [c26]); first | done | with_reducible assumption | omega) (by (try rw [c4]); first | done | with_reducible assumption | omega)) ?_
    rintro cn' K' N' I71 R72 L73 ⟨rfl, rfl, rfl, rfl, g74, gl75, p77, p78, p79, p80, p81, p82, p83, -⟩
    have hM84 : NmM I71 R0 L0 a1 gQ := NmM.kpS hM0 g74 hS0.1 ta1 (by decide +kernel) (by decide +kernel)
    have hS85 := hS0.tr g74 (by decide +kernel) (by decide +kernel)
    have c86 : I71 a1 0 = v29 := (g74.cell ta1 (by decide +kernel)).trans c30
    have c87 : I71 a1 1 = v33 := (g74.cell ta1 (by decide +kernel)).trans c34
    have c88 : I71 a0 13 = v64 := (g74.cell ta0 (by decide +kernel)).trans c65
    have hO89 : FrO 14 a1 T I0 I71 := hO0.st g74 (by decide +kernel)
    have hL90 := hL0.tr gl75 (by decide +kernel)
    have hM91 : NmM I71 R0 L73 a1 gQ := NmM.kpL hM84 gl75 hS85.1 ta1 (by decide +kernel)
    obtain ⟨v92, c93⟩ : ∃ v, I71 a0 9 = v := ⟨_, rfl⟩
    have b94 := iv15_9 hS85.1 ta0 c93
    rw [c93] at p77
    rw [c93] at p78
    obtain ⟨v95, c96⟩ : ∃ v, I71 a0 10 = v := ⟨_, rfl⟩
    have b97 := iv15_10 hS85.1 ta0 c96
    rw [c96] at p79
    obtain ⟨v98, c99⟩ : ∃ v, I71 a0 11 = v := ⟨_, rfl⟩
    rw [c99] at p80
    obtain ⟨y100, c101⟩ : ∃ v, L73 a0 15 = v := ⟨_, rfl⟩
    rw [c101] at p81
    obtain ⟨v102, c103⟩ : ∃ v, I71 a0 12 = v := ⟨_, rfl⟩
    rw [c103] at p82
    obtain ⟨v104, c105⟩ : ∃ v, I71 a0 8 = v := ⟨_, rfl⟩
    have b106 := iv15_8 hS85.1 ta0 c105
    rw [c105] at p83
    obtain ⟨w107, w108, w109, w110, w111, w112, w113, w114, w115, w116, w117, w118⟩ := lnl_10 (B := gB) (Q := gQ) (s := gs) (by omega)
    replace hF := hF.to w107 (alF_ch gB gQ (tkN gB gs))
    replace hP := hP.to w108 (alP_ch gB gQ (tkN gB gs))
    refine tr_aload_n dX12_readAlp_19 rfl ?_
    refine tr_ldcS dX12_readAlp_20 ld12_248 ?_
    refine q_bipush dX12_readAlp_22 (by decide +kernel) ?_
    intro v119 h120
    refine q_sipush dX12_readAlp_24 (by decide +kernel) ?_
    intro v121 h122
    refine q_callVi hE (M' := mX12_readPart) (as := [_, _, _]) dX12_readAlp_27 lk12_249 inX12_readPart seX12_readPart myX12_readPart (by decide) ⟨by decide, by decide⟩ rfl (kR15 hS85.1 ta0) (Nat.le_of_ble_eq_true rfl) rfl rfl (by decide) (by decide) (fk_X12_readPart hS85.1 (gB) ((tkN gB gs)) ta0 (by decide) (TxA.kp hT hS85 ta0 rfl rfl rfl (by decide +kernel) (by decide +kernel)) (by (try rw [c93]); first | done | with_reducible assumption | omega) (by (try rw [c93]); first | done | with_reducible assumption | omega) (by (try rw [c96]); first | done | with_reducible assumption | omega) (by (try rw [c99]); first | done | with_reducible assumption | omega) (by (try rw [c101]); first | done | assumption) (by (try rw [c103]); first | done | assumption) (by (try rw [c105]); first | done | assumption) (by (try rw [((hS85.cell ta0 (by decide +kernel)).trans c26)]); first | done | with_reducible assumption | omega)) ?_
    rintro v128 cn' K' N' I123 R124 L125 ⟨rfl, rfl, rfl, rfl, g126, dj129, -⟩
    (try rw [pk_18] at dj129)
    have hM130 : NmM I123 R0 L73 a1 gQ := NmM.kpS hM91 g126 hS85.1 ta1 (by decide +kernel) (by decide +kernel)
    have hS131 := hS85.tr g126 (by decide +kernel) (by decide +kernel)
    have c132 : I123 a1 0 = v29 := (g126.cell ta1 (by decide +kernel)).trans c86
    have c133 : I123 a1 1 = v33 := (g126.cell ta1 (by decide +kernel)).trans c87
    have hO134 : FrO 14 a1 T I0 I123 := hO89.st g126 (by decide +kernel)
    rcases dj129 with ⟨p135, p136, p137, p138, p139, p140, p141, p142, p143, p144, p145, p146, p147, p148, gl149, -⟩ | ⟨p150, p151, p152, p153, p154, -⟩ | ⟨p155, p156, p157, p158, p159, p160, p161, -⟩ | ⟨p162, p163, p164, p165, p166, p167, p168, p169, -⟩
    · skip
      have hL170 := hL90.tr gl149 (by decide +kernel)
      have hM171 : NmM I123 R0 L125 a1 gQ := NmM.kpL hM130 gl149 hS131.1 ta1 (by decide +kernel)
      obtain ⟨v172, c173⟩ : ∃ v, I123 a0 13 = v := ⟨_, rfl⟩
      rw [c173] at p141
      rw [c88] at p141
      obtain ⟨v174, c175⟩ : ∃ v, I123 a0 9 = v := ⟨_, rfl⟩
      have b176 := iv15_9 hS131.1 ta0 c175
      rw [c175] at p142
      rw [c175] at p143
      obtain ⟨v177, c178⟩ : ∃ v, I123 a0 10 = v := ⟨_, rfl⟩
      have b179 := iv15_10 hS131.1 ta0 c178
      rw [c178] at p144
      obtain ⟨v180, c181⟩ : ∃ v, I123 a0 11 = v := ⟨_, rfl⟩
      rw [c181] at p145
      obtain ⟨y182, c183⟩ : ∃ v, L125 a0 15 = v := ⟨_, rfl⟩
      rw [c183] at p146
      obtain ⟨v184, c185⟩ : ∃ v, I123 a0 12 = v := ⟨_, rfl⟩
      rw [c185] at p147
      obtain ⟨v186, c187⟩ : ∃ v, I123 a0 8 = v := ⟨_, rfl⟩
      have b188 := iv15_8 hS131.1 ta0 c187
      rw [c187] at p148
      replace hF := hF.neg (by omega)
      replace hP := hP.neg (by omega)
      replace hF := hF.neg (by omega)
      replace hP := hP.neg (by omega)
      replace hF := hF.neg (by omega)
      replace hP := hP.neg (by omega)
      refine tr_istore_n dX12_readAlp_30 (by decide) (by decide) ?_
      refine tr_aload_n dX12_readAlp_31 rfl ?_
      refine tr_ldcS dX12_readAlp_32 ld12_253 ?_
      refine q_iconst dX12_readAlp_34 (by decide) ?_
      intro v189 h190
      refine q_iconst dX12_readAlp_35 (by decide) ?_
      intro v191 h192
      refine q_callVi hE (M' := mX12_readPart) (as := [_, _, _]) dX12_readAlp_36 lk12_249 inX12_readPart seX12_readPart myX12_readPart (by decide) ⟨by decide, by decide⟩ rfl (kR15 hS131.1 ta0) (Nat.le_of_ble_eq_true rfl) rfl rfl (by decide) (by decide) (fk_X12_readPart hS131.1 (gB) ((tkN gB (tkN gB (tkN gB gs)))) ta0 (by decide) (TxA.kp hT hS131 ta0 rfl rfl rfl (by decide +kernel) (by decide +kernel)) (by (try rw [c175]); first | done | with_reducible assumption | omega) (by (try rw [c175]); first | done | with_reducible assumption | omega) (by (try rw [c178]); first | done | with_reducible assumption | omega) (by (try rw [c181]); first | done | with_reducible assumption | omega) (by (try rw [c183]); first | done | assumption) (by (try rw [c185]); first | done | assumption) (by (try rw [c187]); first | done | assumption) (by (try rw [((hS131.cell ta0 (by decide +kernel)).trans c26)]); first | done | with_reducible assumption | omega)) ?_
      rintro v198 cn' K' N' I193 R194 L195 ⟨rfl, rfl, rfl, rfl, g196, dj199, -⟩
      (try rw [pk_16] at dj199)
      have hM200 : NmM I193 R0 L125 a1 gQ := NmM.kpS hM171 g196 hS131.1 ta1 (by decide +kernel) (by decide +kernel)
      have hS201 := hS131.tr g196 (by decide +kernel) (by decide +kernel)
      have c202 : I193 a1 0 = v29 := (g196.cell ta1 (by decide +kernel)).trans c132
      have c203 : I193 a1 1 = v33 := (g196.cell ta1 (by decide +kernel)).trans c133
      have hO204 : FrO 14 a1 T I0 I193 := hO134.st g196 (by decide +kernel)
      rcases dj199 with ⟨p205, p206, p207, p208, p209, p210, p211, p212, p213, p214, p215, p216, p217, p218, gl219, -⟩ | ⟨p220, p221, p222, p223, p224, -⟩ | ⟨p225, p226, p227, p228, p229, p230, p231, -⟩ | ⟨p232, p233, p234, p235, p236, p237, p238, p239, -⟩
      · skip
        have hL240 := hL170.tr gl219 (by decide +kernel)
        have hM241 : NmM I193 R0 L195 a1 gQ := NmM.kpL hM200 gl219 hS201.1 ta1 (by decide +kernel)
        obtain ⟨v242, c243⟩ : ∃ v, I193 a0 13 = v := ⟨_, rfl⟩
        rw [c243] at p211
        rw [c173] at p211
        obtain ⟨v244, c245⟩ : ∃ v, I193 a0 9 = v := ⟨_, rfl⟩
        have b246 := iv15_9 hS201.1 ta0 c245
        rw [c245] at p212
        rw [c245] at p213
        obtain ⟨v247, c248⟩ : ∃ v, I193 a0 10 = v := ⟨_, rfl⟩
        have b249 := iv15_10 hS201.1 ta0 c248
        rw [c248] at p214
        obtain ⟨v250, c251⟩ : ∃ v, I193 a0 11 = v := ⟨_, rfl⟩
        rw [c251] at p215
        obtain ⟨y252, c253⟩ : ∃ v, L195 a0 15 = v := ⟨_, rfl⟩
        rw [c253] at p216
        obtain ⟨v254, c255⟩ : ∃ v, I193 a0 12 = v := ⟨_, rfl⟩
        rw [c255] at p217
        obtain ⟨v256, c257⟩ : ∃ v, I193 a0 8 = v := ⟨_, rfl⟩
        have b258 := iv15_8 hS201.1 ta0 c257
        rw [c257] at p218
        replace hF := hF.neg (by omega)
        replace hP := hP.neg (by omega)
        replace hF := hF.neg (by omega)
        replace hP := hP.neg (by omega)
        replace hF := hF.neg (by omega)
        replace hP := hP.neg (by omega)
        refine tr_istore_n dX12_readAlp_39 (by decide) (by decide) ?_
        refine tr_aload_n dX12_readAlp_40 rfl ?_
        refine tr_ldcS dX12_readAlp_41 ld12_255 ?_
        refine q_callVv hE (M' := mX12_needs) (as := [_]) dX12_readAlp_43 lk12_157 inX12_needs seX12_needs myX12_needs (by decide) ⟨by decide, by decide⟩ rfl (kR15 hS201.1 ta0) (Nat.le_of_ble_eq_true rfl) rfl rfl (by decide) (by decide) (fk_X12_needs hS201.1 (gB) ((tkN gB (tkN gB (tkN gB (tkN gB (tkN gB gs)))))) ta0 (by decide) (TxA.kp hT hS201 ta0 rfl rfl rfl (by decide +kernel) (by decide +kernel)) (by (try rw [c245]); first | done | with_reducible assumption | omega) (by (try rw [c245]); first | done | with_reducible assumption | omega) (by (try rw [c248]); first | done | with_reducible assumption | omega) (by (try rw [c251]); first | done | with_reducible assumption | omega) (by (try rw [c253]); first | done | assumption) (by (try rw [c255]); first | done | assumption) (by (try rw [c257]); first | done | assumption) (by (try rw [((hS201.cell ta0 (by decide +kernel)).trans c26)]); first | done | with_reducible assumption | omega)) ?_
        rintro cn' K' N' I259 R260 L261 ⟨rfl, rfl, rfl, rfl, g262, dj265, -⟩
        (try rw [pk_20] at dj265)
        have hM266 : NmM I259 R0 L195 a1 gQ := NmM.kpS hM241 g262 hS201.1 ta1 (by decide +kernel) (by decide +kernel)
        have hS267 := hS201.tr g262 (by decide +kernel) (by decide +kernel)
        have c268 : I259 a1 0 = v29 := (g262.cell ta1 (by decide +kernel)).trans c202
        have c269 : I259 a1 1 = v33 := (g262.cell ta1 (by decide +kernel)).trans c203
        have hO270 : FrO 14 a1 T I0 I259 := hO204.st g262 (by decide +kernel)
        rcases dj265 with ⟨p271, p272, p273, p274, p275, p276, p277, p278, p279, p280, gl281, -⟩ | ⟨p282, p283, p284, p285, -⟩
        · skip
          have hL286 := hL240.tr gl281 (by decide +kernel)
          have hM287 : NmM I259 R0 L261 a1 gQ := NmM.kpL hM266 gl281 hS267.1 ta1 (by decide +kernel)
          obtain ⟨v288, c289⟩ : ∃ v, I259 a0 13 = v := ⟨_, rfl⟩
          rw [c289] at p273
          rw [c243] at p273
          obtain ⟨v290, c291⟩ : ∃ v, I259 a0 9 = v := ⟨_, rfl⟩
          have b292 := iv15_9 hS267.1 ta0 c291
          rw [c291] at p274
          rw [c291] at p275
          obtain ⟨v293, c294⟩ : ∃ v, I259 a0 10 = v := ⟨_, rfl⟩
          have b295 := iv15_10 hS267.1 ta0 c294
          rw [c294] at p276
          obtain ⟨v296, c297⟩ : ∃ v, I259 a0 11 = v := ⟨_, rfl⟩
          rw [c297] at p277
          obtain ⟨y298, c299⟩ : ∃ v, L261 a0 15 = v := ⟨_, rfl⟩
          rw [c299] at p278
          obtain ⟨v300, c301⟩ : ∃ v, I259 a0 12 = v := ⟨_, rfl⟩
          rw [c301] at p279
          obtain ⟨v302, c303⟩ : ∃ v, I259 a0 8 = v := ⟨_, rfl⟩
          have b304 := iv15_8 hS267.1 ta0 c303
          rw [c303] at p280
          replace hF := hF.neg (by omega)
          replace hP := hP.neg (by omega)
          refine q_iconst dX12_readAlp_46 (by decide) ?_
          intro v305 h306
          refine tr_istore_n dX12_readAlp_47 (by decide) (by decide) ?_
          refine tr_iload_n dX12_readAlp_48 rfl ?_
          refine q_iconst dX12_readAlp_49 (by decide) ?_
          intro v307 h308
          refine q_icmp_ge 85 dX12_readAlp_50 (by decide) (fun h309 => ?_) (fun h309 => ?_)
          · skip
            exfalso; omega
          · skip
            refine tr_iload_n dX12_readAlp_53 rfl ?_
            refine q_if_le 63 dX12_readAlp_54 (by decide) (fun h310 => ?_) (fun h310 => ?_)
            · skip
              refine tr_aload_n dX12_readAlp_63 rfl ?_
              refine tr_getR dX12_readAlp_64 fl12_188 (kR15 hS267.1 ta0) d2 ?_
              refine tr_getR dX12_readAlp_67 fl12_260 (kR14 hS267.1 ta1) d67 ?_
              refine tr_iload_n dX12_readAlp_70 rfl ?_
              refine tr_aload_n dX12_readAlp_71 rfl ?_
              refine q_iconst dX12_readAlp_72 (by decide) ?_
              intro v311 h312
              refine q_bipush dX12_readAlp_73 (by decide +kernel) ?_
              intro v313 h314
              refine q_callVi hE (M' := mX12_readWhole) (as := [_, _]) dX12_readAlp_75 lk12_161 inX12_readWhole seX12_readWhole myX12_readWhole (by decide) ⟨by decide, by decide⟩ rfl (kR15 hS267.1 ta0) (Nat.le_of_ble_eq_true rfl) rfl rfl (by decide) (by decide) (fk_X12_readWhole hS267.1 (gB) ((tkN gB (tkN gB (tkN gB (tkN gB (tkN gB (tkN gB gs))))))) ta0 (TxA.kp hT hS267 ta0 rfl rfl rfl (by decide +kernel) (by decide +kernel)) (by (try rw [c291]); first | done | with_reducible assumption | omega) (by (try rw [c291]); first | done | with_reducible assumption | omega) (by (try rw [c294]); first | done | with_reducible assumption | omega) (by (try rw [c297]); first | done | with_reducible assumption | omega) (by (try rw [c299]); first | done | assumption) (by (try rw [c301]); first | done | assumption) (by (try rw [c303]); first | done | assumption) (by (try rw [((hS267.cell ta0 (by decide +kernel)).trans c26)]); first | done | with_reducible assumption | omega)) ?_
              rintro v320 cn' K' N' I315 R316 L317 ⟨rfl, rfl, rfl, rfl, g318, dj321, -⟩
              have hM322 : NmM I315 R0 L261 a1 gQ := NmM.kpS hM287 g318 hS267.1 ta1 (by decide +kernel) (by decide +kernel)
              have hS323 := hS267.tr g318 (by decide +kernel) (by decide +kernel)
              have c324 : I315 a1 0 = v29 := (g318.cell ta1 (by decide +kernel)).trans c268
              have c325 : I315 a1 1 = v33 := (g318.cell ta1 (by decide +kernel)).trans c269
              have hO326 : FrO 14 a1 T I0 I315 := hO270.st g318 (by decide +kernel)
              rcases dj321 with ⟨p327, p328, p329, p330, p331, p332, p333, p334, p335, p336, p337, p338, gl339, -⟩ | ⟨p340, p341, p342, p343, p344, -⟩ | ⟨p345, p346, p347, p348, p349, p350, -⟩
              · skip
                have hL351 := hL286.tr gl339 (by decide +kernel)
                have hM352 : NmM I315 R0 L317 a1 gQ := NmM.kpL hM322 gl339 hS323.1 ta1 (by decide +kernel)
                obtain ⟨v353, c354⟩ : ∃ v, I315 a0 13 = v := ⟨_, rfl⟩
                rw [c354] at p331
                rw [c289] at p331
                obtain ⟨v355, c356⟩ : ∃ v, I315 a0 9 = v := ⟨_, rfl⟩
                have b357 := iv15_9 hS323.1 ta0 c356
                rw [c356] at p332
                rw [c356] at p333
                obtain ⟨v358, c359⟩ : ∃ v, I315 a0 10 = v := ⟨_, rfl⟩
                have b360 := iv15_10 hS323.1 ta0 c359
                rw [c359] at p334
                obtain ⟨v361, c362⟩ : ∃ v, I315 a0 11 = v := ⟨_, rfl⟩
                rw [c362] at p335
                obtain ⟨y363, c364⟩ : ∃ v, L317 a0 15 = v := ⟨_, rfl⟩
                rw [c364] at p336
                obtain ⟨v365, c366⟩ : ∃ v, I315 a0 12 = v := ⟨_, rfl⟩
                rw [c366] at p337
                obtain ⟨v367, c368⟩ : ∃ v, I315 a0 8 = v := ⟨_, rfl⟩
                have b369 := iv15_8 hS323.1 ta0 c368
                rw [c368] at p338
                replace hF := hF.neg (by omega)
                replace hP := hP.neg (by omega)
                replace hF := hF.neg (by omega)
                replace hP := hP.neg (by omega)
                refine q_iast dX12_readAlp_78 (kR53 hS323.1 ta66) (ti_in (nR53 hS323.1 ta66) (by omega) (by omega)) hS323 ta66 (iokF rfl) rfl (by rfl) ?_
                intro I370 hS371 e373 f372
                have c374 : I370 a1 0 = v29 := (f372 _ _ (fun q => by have z := ta1; rw [q.1, ta66] at z; exact absurd z (by decide))).trans c324
                have c375 : I370 a1 1 = v33 := (f372 _ _ (fun q => by have z := ta1; rw [q.1, ta66] at z; exact absurd z (by decide))).trans c325
                have c376 : I370 a0 13 = v353 := (f372 _ _ (fun q => by have z := ta0; rw [q.1, ta66] at z; exact absurd z (by decide))).trans c354
                have c377 : I370 a0 9 = v355 := (f372 _ _ (fun q => by have z := ta0; rw [q.1, ta66] at z; exact absurd z (by decide))).trans c356
                have c378 : I370 a0 10 = v358 := (f372 _ _ (fun q => by have z := ta0; rw [q.1, ta66] at z; exact absurd z (by decide))).trans c359
                have c379 : I370 a0 11 = v361 := (f372 _ _ (fun q => by have z := ta0; rw [q.1, ta66] at z; exact absurd z (by decide))).trans c362
                have c380 : I370 a0 12 = v365 := (f372 _ _ (fun q => by have z := ta0; rw [q.1, ta66] at z; exact absurd z (by decide))).trans c366
                have c381 : I370 a0 8 = v367 := (f372 _ _ (fun q => by have z := ta0; rw [q.1, ta66] at z; exact absurd z (by decide))).trans c368
                have hO382 : FrO 14 a1 T I0 I370 := hO326.put f372 ta66 (Or.inl (by decide))
                have hM383 : NmM I370 R0 L317 a1 gQ := NmM.kp1 hM352 f372 ta66 rfl rfl hS323.1 ta1
                refine q_iincE dX12_readAlp_79 rfl (by decide) (by decide) (by intros; omega) ?_
                intro v384 h385
                refine tr_goto 48 dX12_readAlp_82 (by decide) ?_
                refine tr_iload_n dX12_readAlp_48 rfl ?_
                refine q_iconst dX12_readAlp_49 (by decide) ?_
                intro v386 h387
                refine q_icmp_ge 85 dX12_readAlp_50 (by decide) (fun h388 => ?_) (fun h388 => ?_)
                · skip
                  exfalso; omega
                · skip
                  refine tr_iload_n dX12_readAlp_53 rfl ?_
                  refine q_if_le 63 dX12_readAlp_54 (by decide) (fun h389 => ?_) (fun h389 => ?_)
                  · skip
                    exfalso; omega
                  · skip
                    refine tr_aload_n dX12_readAlp_57 rfl ?_
                    refine q_bipush dX12_readAlp_58 (by decide +kernel) ?_
                    intro v390 h391
                    refine q_callVv hE (M' := mX12_needsSign) (as := [_]) dX12_readAlp_60 lk12_257 inX12_needsSign seX12_needsSign myX12_needsSign (by decide) ⟨by decide, by decide⟩ rfl (kR15 hS371.1 ta0) (Nat.le_of_ble_eq_true rfl) rfl rfl (by decide) (by decide) (fk_X12_needsSign hS371.1 (gB) ((tkN gB (tkN gB (tkN gB (tkN gB (tkN gB (tkN gB (tkN gB gs)))))))) ta0 (TxA.kp hT hS371 ta0 rfl rfl rfl (by decide +kernel) (by decide +kernel)) (by (try rw [c377]); first | done | with_reducible assumption | omega) (by (try rw [c377]); first | done | with_reducible assumption | omega) (by (try rw [c378]); first | done | with_reducible assumption | omega) (by (try rw [c379]); first | done | with_reducible assumption | omega) (by (try rw [c364]); first | done | assumption) (by (try rw [c380]); first | done | assumption) (by (try rw [c381]); first | done | assumption) (by (try rw [((hS371.cell ta0 (by decide +kernel)).trans c26)]); first | done | with_reducible assumption | omega) (by first | done | with_reducible assumption | omega)) ?_
                    rintro cn' K' N' I392 R393 L394 ⟨rfl, rfl, rfl, rfl, g395, dj398, -⟩
                    have hM399 : NmM I392 R0 L317 a1 gQ := NmM.kpS hM383 g395 hS371.1 ta1 (by decide +kernel) (by decide +kernel)
                    have hS400 := hS371.tr g395 (by decide +kernel) (by decide +kernel)
                    have c401 : I392 a1 0 = v29 := (g395.cell ta1 (by decide +kernel)).trans c374
                    have c402 : I392 a1 1 = v33 := (g395.cell ta1 (by decide +kernel)).trans c375
                    have hO403 : FrO 14 a1 T I0 I392 := hO382.st g395 (by decide +kernel)
                    rcases dj398 with ⟨p404, p405, p406, p407, p408, p409, p410, p411, p412, gl413, -⟩ | ⟨p414, p415, p416, p417, -⟩
                    · skip
                      have hL418 := hL351.tr gl413 (by decide +kernel)
                      have hM419 : NmM I392 R0 L394 a1 gQ := NmM.kpL hM399 gl413 hS400.1 ta1 (by decide +kernel)
                      obtain ⟨v420, c421⟩ : ∃ v, I392 a0 13 = v := ⟨_, rfl⟩
                      rw [c421] at p405
                      rw [c376] at p405
                      obtain ⟨v422, c423⟩ : ∃ v, I392 a0 9 = v := ⟨_, rfl⟩
                      have b424 := iv15_9 hS400.1 ta0 c423
                      rw [c423] at p406
                      rw [c423] at p407
                      obtain ⟨v425, c426⟩ : ∃ v, I392 a0 10 = v := ⟨_, rfl⟩
                      have b427 := iv15_10 hS400.1 ta0 c426
                      rw [c426] at p408
                      obtain ⟨v428, c429⟩ : ∃ v, I392 a0 11 = v := ⟨_, rfl⟩
                      rw [c429] at p409
                      obtain ⟨y430, c431⟩ : ∃ v, L394 a0 15 = v := ⟨_, rfl⟩
                      rw [c431] at p410
                      obtain ⟨v432, c433⟩ : ∃ v, I392 a0 12 = v := ⟨_, rfl⟩
                      rw [c433] at p411
                      obtain ⟨v434, c435⟩ : ∃ v, I392 a0 8 = v := ⟨_, rfl⟩
                      have b436 := iv15_8 hS400.1 ta0 c435
                      rw [c435] at p412
                      replace hF := hF.neg (by omega)
                      replace hP := hP.neg (by omega)
                      refine tr_aload_n dX12_readAlp_63 rfl ?_
                      refine tr_getR dX12_readAlp_64 fl12_188 (kR15 hS400.1 ta0) d2 ?_
                      refine tr_getR dX12_readAlp_67 fl12_260 (kR14 hS400.1 ta1) d67 ?_
                      refine tr_iload_n dX12_readAlp_70 rfl ?_
                      refine tr_aload_n dX12_readAlp_71 rfl ?_
                      refine q_iconst dX12_readAlp_72 (by decide) ?_
                      intro v437 h438
                      refine q_bipush dX12_readAlp_73 (by decide +kernel) ?_
                      intro v439 h440
                      refine q_callVi hE (M' := mX12_readWhole) (as := [_, _]) dX12_readAlp_75 lk12_161 inX12_readWhole seX12_readWhole myX12_readWhole (by decide) ⟨by decide, by decide⟩ rfl (kR15 hS400.1 ta0) (Nat.le_of_ble_eq_true rfl) rfl rfl (by decide) (by decide) (fk_X12_readWhole hS400.1 (gB) ((tkN gB (tkN gB (tkN gB (tkN gB (tkN gB (tkN gB (tkN gB (tkN gB gs))))))))) ta0 (TxA.kp hT hS400 ta0 rfl rfl rfl (by decide +kernel) (by decide +kernel)) (by (try rw [c423]); first | done | with_reducible assumption | omega) (by (try rw [c423]); first | done | with_reducible assumption | omega) (by (try rw [c426]); first | done | with_reducible assumption | omega) (by (try rw [c429]); first | done | with_reducible assumption | omega) (by (try rw [c431]); first | done | assumption) (by (try rw [c433]); first | done | assumption) (by (try rw [c435]); first | done | assumption) (by (try rw [((hS400.cell ta0 (by decide +kernel)).trans c26)]); first | done | with_reducible assumption | omega)) ?_
                      rintro v446 cn' K' N' I441 R442 L443 ⟨rfl, rfl, rfl, rfl, g444, dj447, -⟩
                      have hM448 : NmM I441 R0 L394 a1 gQ := NmM.kpS hM419 g444 hS400.1 ta1 (by decide +kernel) (by decide +kernel)
                      have hS449 := hS400.tr g444 (by decide +kernel) (by decide +kernel)
                      have c450 : I441 a1 0 = v29 := (g444.cell ta1 (by decide +kernel)).trans c401
                      have c451 : I441 a1 1 = v33 := (g444.cell ta1 (by decide +kernel)).trans c402
                      have hO452 : FrO 14 a1 T I0 I441 := hO403.st g444 (by decide +kernel)
                      rcases dj447 with ⟨p453, p454, p455, p456, p457, p458, p459, p460, p461, p462, p463, p464, gl465, -⟩ | ⟨p466, p467, p468, p469, p470, -⟩ | ⟨p471, p472, p473, p474, p475, p476, -⟩
                      · skip
                        have hL477 := hL418.tr gl465 (by decide +kernel)
                        have hM478 : NmM I441 R0 L443 a1 gQ := NmM.kpL hM448 gl465 hS449.1 ta1 (by decide +kernel)
                        obtain ⟨v479, c480⟩ : ∃ v, I441 a0 13 = v := ⟨_, rfl⟩
                        rw [c480] at p457
                        rw [c421] at p457
                        obtain ⟨v481, c482⟩ : ∃ v, I441 a0 9 = v := ⟨_, rfl⟩
                        have b483 := iv15_9 hS449.1 ta0 c482
                        rw [c482] at p458
                        rw [c482] at p459
                        obtain ⟨v484, c485⟩ : ∃ v, I441 a0 10 = v := ⟨_, rfl⟩
                        have b486 := iv15_10 hS449.1 ta0 c485
                        rw [c485] at p460
                        obtain ⟨v487, c488⟩ : ∃ v, I441 a0 11 = v := ⟨_, rfl⟩
                        rw [c488] at p461
                        obtain ⟨y489, c490⟩ : ∃ v, L443 a0 15 = v := ⟨_, rfl⟩
                        rw [c490] at p462
                        obtain ⟨v491, c492⟩ : ∃ v, I441 a0 12 = v := ⟨_, rfl⟩
                        rw [c492] at p463
                        obtain ⟨v493, c494⟩ : ∃ v, I441 a0 8 = v := ⟨_, rfl⟩
                        have b495 := iv15_8 hS449.1 ta0 c494
                        rw [c494] at p464
                        replace hF := hF.neg (by omega)
                        replace hP := hP.neg (by omega)
                        replace hF := hF.neg (by omega)
                        replace hP := hP.neg (by omega)
                        refine q_iast dX12_readAlp_78 (kR53 hS449.1 ta66) (ti_in (nR53 hS449.1 ta66) (by omega) (by omega)) hS449 ta66 (iokF rfl) rfl (by rfl) ?_
                        intro I496 hS497 e499 f498
                        have c500 : I496 a1 0 = v29 := (f498 _ _ (fun q => by have z := ta1; rw [q.1, ta66] at z; exact absurd z (by decide))).trans c450
                        have c501 : I496 a1 1 = v33 := (f498 _ _ (fun q => by have z := ta1; rw [q.1, ta66] at z; exact absurd z (by decide))).trans c451
                        have c502 : I496 a0 13 = v479 := (f498 _ _ (fun q => by have z := ta0; rw [q.1, ta66] at z; exact absurd z (by decide))).trans c480
                        have c503 : I496 a0 9 = v481 := (f498 _ _ (fun q => by have z := ta0; rw [q.1, ta66] at z; exact absurd z (by decide))).trans c482
                        have c504 : I496 a0 10 = v484 := (f498 _ _ (fun q => by have z := ta0; rw [q.1, ta66] at z; exact absurd z (by decide))).trans c485
                        have c505 : I496 a0 11 = v487 := (f498 _ _ (fun q => by have z := ta0; rw [q.1, ta66] at z; exact absurd z (by decide))).trans c488
                        have c506 : I496 a0 12 = v491 := (f498 _ _ (fun q => by have z := ta0; rw [q.1, ta66] at z; exact absurd z (by decide))).trans c492
                        have c507 : I496 a0 8 = v493 := (f498 _ _ (fun q => by have z := ta0; rw [q.1, ta66] at z; exact absurd z (by decide))).trans c494
                        have hO508 : FrO 14 a1 T I0 I496 := hO452.put f498 ta66 (Or.inl (by decide))
                        have hM509 : NmM I496 R0 L443 a1 gQ := NmM.kp1 hM478 f498 ta66 rfl rfl hS449.1 ta1
                        refine q_iincE dX12_readAlp_79 rfl (by decide) (by decide) (by intros; omega) ?_
                        intro v510 h511
                        refine tr_goto 48 dX12_readAlp_82 (by decide) ?_
                        refine tr_iload_n dX12_readAlp_48 rfl ?_
                        refine q_iconst dX12_readAlp_49 (by decide) ?_
                        intro v512 h513
                        refine q_icmp_ge 85 dX12_readAlp_50 (by decide) (fun h514 => ?_) (fun h514 => ?_)
                        · skip
                          exfalso; omega
                        · skip
                          refine tr_iload_n dX12_readAlp_53 rfl ?_
                          refine q_if_le 63 dX12_readAlp_54 (by decide) (fun h515 => ?_) (fun h515 => ?_)
                          · skip
                            exfalso; omega
                          · skip
                            refine tr_aload_n dX12_readAlp_57 rfl ?_
                            refine q_bipush dX12_readAlp_58 (by decide +kernel) ?_
                            intro v516 h517
                            refine q_callVv hE (M' := mX12_needsSign) (as := [_]) dX12_readAlp_60 lk12_257 inX12_needsSign seX12_needsSign myX12_needsSign (by decide) ⟨by decide, by decide⟩ rfl (kR15 hS497.1 ta0) (Nat.le_of_ble_eq_true rfl) rfl rfl (by decide) (by decide) (fk_X12_needsSign hS497.1 (gB) ((tkN gB (tkN gB (tkN gB (tkN gB (tkN gB (tkN gB (tkN gB (tkN gB (tkN gB gs)))))))))) ta0 (TxA.kp hT hS497 ta0 rfl rfl rfl (by decide +kernel) (by decide +kernel)) (by (try rw [c503]); first | done | with_reducible assumption | omega) (by (try rw [c503]); first | done | with_reducible assumption | omega) (by (try rw [c504]); first | done | with_reducible assumption | omega) (by (try rw [c505]); first | done | with_reducible assumption | omega) (by (try rw [c490]); first | done | assumption) (by (try rw [c506]); first | done | assumption) (by (try rw [c507]); first | done | assumption) (by (try rw [((hS497.cell ta0 (by decide +kernel)).trans c26)]); first | done | with_reducible assumption | omega) (by first | done | with_reducible assumption | omega)) ?_
                            rintro cn' K' N' I518 R519 L520 ⟨rfl, rfl, rfl, rfl, g521, dj524, -⟩
                            have hM525 : NmM I518 R0 L443 a1 gQ := NmM.kpS hM509 g521 hS497.1 ta1 (by decide +kernel) (by decide +kernel)
                            have hS526 := hS497.tr g521 (by decide +kernel) (by decide +kernel)
                            have c527 : I518 a1 0 = v29 := (g521.cell ta1 (by decide +kernel)).trans c500
                            have c528 : I518 a1 1 = v33 := (g521.cell ta1 (by decide +kernel)).trans c501
                            have hO529 : FrO 14 a1 T I0 I518 := hO508.st g521 (by decide +kernel)
                            rcases dj524 with ⟨p530, p531, p532, p533, p534, p535, p536, p537, p538, gl539, -⟩ | ⟨p540, p541, p542, p543, -⟩
                            · skip
                              have hL544 := hL477.tr gl539 (by decide +kernel)
                              have hM545 : NmM I518 R0 L520 a1 gQ := NmM.kpL hM525 gl539 hS526.1 ta1 (by decide +kernel)
                              obtain ⟨v546, c547⟩ : ∃ v, I518 a0 13 = v := ⟨_, rfl⟩
                              rw [c547] at p531
                              rw [c502] at p531
                              obtain ⟨v548, c549⟩ : ∃ v, I518 a0 9 = v := ⟨_, rfl⟩
                              have b550 := iv15_9 hS526.1 ta0 c549
                              rw [c549] at p532
                              rw [c549] at p533
                              obtain ⟨v551, c552⟩ : ∃ v, I518 a0 10 = v := ⟨_, rfl⟩
                              have b553 := iv15_10 hS526.1 ta0 c552
                              rw [c552] at p534
                              obtain ⟨v554, c555⟩ : ∃ v, I518 a0 11 = v := ⟨_, rfl⟩
                              rw [c555] at p535
                              obtain ⟨y556, c557⟩ : ∃ v, L520 a0 15 = v := ⟨_, rfl⟩
                              rw [c557] at p536
                              obtain ⟨v558, c559⟩ : ∃ v, I518 a0 12 = v := ⟨_, rfl⟩
                              rw [c559] at p537
                              obtain ⟨v560, c561⟩ : ∃ v, I518 a0 8 = v := ⟨_, rfl⟩
                              have b562 := iv15_8 hS526.1 ta0 c561
                              rw [c561] at p538
                              replace hF := hF.neg (by omega)
                              replace hP := hP.neg (by omega)
                              refine tr_aload_n dX12_readAlp_63 rfl ?_
                              refine tr_getR dX12_readAlp_64 fl12_188 (kR15 hS526.1 ta0) d2 ?_
                              refine tr_getR dX12_readAlp_67 fl12_260 (kR14 hS526.1 ta1) d67 ?_
                              refine tr_iload_n dX12_readAlp_70 rfl ?_
                              refine tr_aload_n dX12_readAlp_71 rfl ?_
                              refine q_iconst dX12_readAlp_72 (by decide) ?_
                              intro v563 h564
                              refine q_bipush dX12_readAlp_73 (by decide +kernel) ?_
                              intro v565 h566
                              refine q_callVi hE (M' := mX12_readWhole) (as := [_, _]) dX12_readAlp_75 lk12_161 inX12_readWhole seX12_readWhole myX12_readWhole (by decide) ⟨by decide, by decide⟩ rfl (kR15 hS526.1 ta0) (Nat.le_of_ble_eq_true rfl) rfl rfl (by decide) (by decide) (fk_X12_readWhole hS526.1 (gB) ((tkN gB (tkN gB (tkN gB (tkN gB (tkN gB (tkN gB (tkN gB (tkN gB (tkN gB (tkN gB gs))))))))))) ta0 (TxA.kp hT hS526 ta0 rfl rfl rfl (by decide +kernel) (by decide +kernel)) (by (try rw [c549]); first | done | with_reducible assumption | omega) (by (try rw [c549]); first | done | with_reducible assumption | omega) (by (try rw [c552]); first | done | with_reducible assumption | omega) (by (try rw [c555]); first | done | with_reducible assumption | omega) (by (try rw [c557]); first | done | assumption) (by (try rw [c559]); first | done | assumption) (by (try rw [c561]); first | done | assumption) (by (try rw [((hS526.cell ta0 (by decide +kernel)).trans c26)]); first | done | with_reducible assumption | omega)) ?_
                              rintro v572 cn' K' N' I567 R568 L569 ⟨rfl, rfl, rfl, rfl, g570, dj573, -⟩
                              have hM574 : NmM I567 R0 L520 a1 gQ := NmM.kpS hM545 g570 hS526.1 ta1 (by decide +kernel) (by decide +kernel)
                              have hS575 := hS526.tr g570 (by decide +kernel) (by decide +kernel)
                              have c576 : I567 a1 0 = v29 := (g570.cell ta1 (by decide +kernel)).trans c527
                              have c577 : I567 a1 1 = v33 := (g570.cell ta1 (by decide +kernel)).trans c528
                              have hO578 : FrO 14 a1 T I0 I567 := hO529.st g570 (by decide +kernel)
                              rcases dj573 with ⟨p579, p580, p581, p582, p583, p584, p585, p586, p587, p588, p589, p590, gl591, -⟩ | ⟨p592, p593, p594, p595, p596, -⟩ | ⟨p597, p598, p599, p600, p601, p602, -⟩
                              · skip
                                have hL603 := hL544.tr gl591 (by decide +kernel)
                                have hM604 : NmM I567 R0 L569 a1 gQ := NmM.kpL hM574 gl591 hS575.1 ta1 (by decide +kernel)
                                obtain ⟨v605, c606⟩ : ∃ v, I567 a0 13 = v := ⟨_, rfl⟩
                                rw [c606] at p583
                                rw [c547] at p583
                                obtain ⟨v607, c608⟩ : ∃ v, I567 a0 9 = v := ⟨_, rfl⟩
                                have b609 := iv15_9 hS575.1 ta0 c608
                                rw [c608] at p584
                                rw [c608] at p585
                                obtain ⟨v610, c611⟩ : ∃ v, I567 a0 10 = v := ⟨_, rfl⟩
                                have b612 := iv15_10 hS575.1 ta0 c611
                                rw [c611] at p586
                                obtain ⟨v613, c614⟩ : ∃ v, I567 a0 11 = v := ⟨_, rfl⟩
                                rw [c614] at p587
                                obtain ⟨y615, c616⟩ : ∃ v, L569 a0 15 = v := ⟨_, rfl⟩
                                rw [c616] at p588
                                obtain ⟨v617, c618⟩ : ∃ v, I567 a0 12 = v := ⟨_, rfl⟩
                                rw [c618] at p589
                                obtain ⟨v619, c620⟩ : ∃ v, I567 a0 8 = v := ⟨_, rfl⟩
                                have b621 := iv15_8 hS575.1 ta0 c620
                                rw [c620] at p590
                                replace hF := hF.neg (by omega)
                                replace hP := hP.neg (by omega)
                                replace hF := hF.neg (by omega)
                                replace hP := hP.neg (by omega)
                                refine q_iast dX12_readAlp_78 (kR53 hS575.1 ta66) (ti_in (nR53 hS575.1 ta66) (by omega) (by omega)) hS575 ta66 (iokF rfl) rfl (by rfl) ?_
                                intro I622 hS623 e625 f624
                                have c626 : I622 a1 0 = v29 := (f624 _ _ (fun q => by have z := ta1; rw [q.1, ta66] at z; exact absurd z (by decide))).trans c576
                                have c627 : I622 a1 1 = v33 := (f624 _ _ (fun q => by have z := ta1; rw [q.1, ta66] at z; exact absurd z (by decide))).trans c577
                                have c628 : I622 a0 13 = v605 := (f624 _ _ (fun q => by have z := ta0; rw [q.1, ta66] at z; exact absurd z (by decide))).trans c606
                                have c629 : I622 a0 9 = v607 := (f624 _ _ (fun q => by have z := ta0; rw [q.1, ta66] at z; exact absurd z (by decide))).trans c608
                                have c630 : I622 a0 10 = v610 := (f624 _ _ (fun q => by have z := ta0; rw [q.1, ta66] at z; exact absurd z (by decide))).trans c611
                                have c631 : I622 a0 11 = v613 := (f624 _ _ (fun q => by have z := ta0; rw [q.1, ta66] at z; exact absurd z (by decide))).trans c614
                                have c632 : I622 a0 12 = v617 := (f624 _ _ (fun q => by have z := ta0; rw [q.1, ta66] at z; exact absurd z (by decide))).trans c618
                                have c633 : I622 a0 8 = v619 := (f624 _ _ (fun q => by have z := ta0; rw [q.1, ta66] at z; exact absurd z (by decide))).trans c620
                                have hO634 : FrO 14 a1 T I0 I622 := hO578.put f624 ta66 (Or.inl (by decide))
                                have hM635 : NmM I622 R0 L569 a1 gQ := NmM.kp1 hM604 f624 ta66 rfl rfl hS575.1 ta1
                                refine q_iincE dX12_readAlp_79 rfl (by decide) (by decide) (by intros; omega) ?_
                                intro v636 h637
                                refine tr_goto 48 dX12_readAlp_82 (by decide) ?_
                                refine tr_iload_n dX12_readAlp_48 rfl ?_
                                refine q_iconst dX12_readAlp_49 (by decide) ?_
                                intro v638 h639
                                refine q_icmp_ge 85 dX12_readAlp_50 (by decide) (fun h640 => ?_) (fun h640 => ?_)
                                · skip
                                  exfalso; omega
                                · skip
                                  refine tr_iload_n dX12_readAlp_53 rfl ?_
                                  refine q_if_le 63 dX12_readAlp_54 (by decide) (fun h641 => ?_) (fun h641 => ?_)
                                  · skip
                                    exfalso; omega
                                  · skip
                                    refine tr_aload_n dX12_readAlp_57 rfl ?_
                                    refine q_bipush dX12_readAlp_58 (by decide +kernel) ?_
                                    intro v642 h643
                                    refine q_callVv hE (M' := mX12_needsSign) (as := [_]) dX12_readAlp_60 lk12_257 inX12_needsSign seX12_needsSign myX12_needsSign (by decide) ⟨by decide, by decide⟩ rfl (kR15 hS623.1 ta0) (Nat.le_of_ble_eq_true rfl) rfl rfl (by decide) (by decide) (fk_X12_needsSign hS623.1 (gB) ((tkN gB (tkN gB (tkN gB (tkN gB (tkN gB (tkN gB (tkN gB (tkN gB (tkN gB (tkN gB (tkN gB gs)))))))))))) ta0 (TxA.kp hT hS623 ta0 rfl rfl rfl (by decide +kernel) (by decide +kernel)) (by (try rw [c629]); first | done | with_reducible assumption | omega) (by (try rw [c629]); first | done | with_reducible assumption | omega) (by (try rw [c630]); first | done | with_reducible assumption | omega) (by (try rw [c631]); first | done | with_reducible assumption | omega) (by (try rw [c616]); first | done | assumption) (by (try rw [c632]); first | done | assumption) (by (try rw [c633]); first | done | assumption) (by (try rw [((hS623.cell ta0 (by decide +kernel)).trans c26)]); first | done | with_reducible assumption | omega) (by first | done | with_reducible assumption | omega)) ?_
                                    rintro cn' K' N' I644 R645 L646 ⟨rfl, rfl, rfl, rfl, g647, dj650, -⟩
                                    have hM651 : NmM I644 R0 L569 a1 gQ := NmM.kpS hM635 g647 hS623.1 ta1 (by decide +kernel) (by decide +kernel)
                                    have hS652 := hS623.tr g647 (by decide +kernel) (by decide +kernel)
                                    have c653 : I644 a1 0 = v29 := (g647.cell ta1 (by decide +kernel)).trans c626
                                    have c654 : I644 a1 1 = v33 := (g647.cell ta1 (by decide +kernel)).trans c627
                                    have hO655 : FrO 14 a1 T I0 I644 := hO634.st g647 (by decide +kernel)
                                    rcases dj650 with ⟨p656, p657, p658, p659, p660, p661, p662, p663, p664, gl665, -⟩ | ⟨p666, p667, p668, p669, -⟩
                                    · skip
                                      have hL670 := hL603.tr gl665 (by decide +kernel)
                                      have hM671 : NmM I644 R0 L646 a1 gQ := NmM.kpL hM651 gl665 hS652.1 ta1 (by decide +kernel)
                                      obtain ⟨v672, c673⟩ : ∃ v, I644 a0 13 = v := ⟨_, rfl⟩
                                      rw [c673] at p657
                                      rw [c628] at p657
                                      obtain ⟨v674, c675⟩ : ∃ v, I644 a0 9 = v := ⟨_, rfl⟩
                                      have b676 := iv15_9 hS652.1 ta0 c675
                                      rw [c675] at p658
                                      rw [c675] at p659
                                      obtain ⟨v677, c678⟩ : ∃ v, I644 a0 10 = v := ⟨_, rfl⟩
                                      have b679 := iv15_10 hS652.1 ta0 c678
                                      rw [c678] at p660
                                      obtain ⟨v680, c681⟩ : ∃ v, I644 a0 11 = v := ⟨_, rfl⟩
                                      rw [c681] at p661
                                      obtain ⟨y682, c683⟩ : ∃ v, L646 a0 15 = v := ⟨_, rfl⟩
                                      rw [c683] at p662
                                      obtain ⟨v684, c685⟩ : ∃ v, I644 a0 12 = v := ⟨_, rfl⟩
                                      rw [c685] at p663
                                      obtain ⟨v686, c687⟩ : ∃ v, I644 a0 8 = v := ⟨_, rfl⟩
                                      have b688 := iv15_8 hS652.1 ta0 c687
                                      rw [c687] at p664
                                      replace hF := hF.neg (by omega)
                                      replace hP := hP.neg (by omega)
                                      refine tr_aload_n dX12_readAlp_63 rfl ?_
                                      refine tr_getR dX12_readAlp_64 fl12_188 (kR15 hS652.1 ta0) d2 ?_
                                      refine tr_getR dX12_readAlp_67 fl12_260 (kR14 hS652.1 ta1) d67 ?_
                                      refine tr_iload_n dX12_readAlp_70 rfl ?_
                                      refine tr_aload_n dX12_readAlp_71 rfl ?_
                                      refine q_iconst dX12_readAlp_72 (by decide) ?_
                                      intro v689 h690
                                      refine q_bipush dX12_readAlp_73 (by decide +kernel) ?_
                                      intro v691 h692
                                      refine q_callVi hE (M' := mX12_readWhole) (as := [_, _]) dX12_readAlp_75 lk12_161 inX12_readWhole seX12_readWhole myX12_readWhole (by decide) ⟨by decide, by decide⟩ rfl (kR15 hS652.1 ta0) (Nat.le_of_ble_eq_true rfl) rfl rfl (by decide) (by decide) (fk_X12_readWhole hS652.1 (gB) ((tkN gB (tkN gB (tkN gB (tkN gB (tkN gB (tkN gB (tkN gB (tkN gB (tkN gB (tkN gB (tkN gB (tkN gB gs))))))))))))) ta0 (TxA.kp hT hS652 ta0 rfl rfl rfl (by decide +kernel) (by decide +kernel)) (by (try rw [c675]); first | done | with_reducible assumption | omega) (by (try rw [c675]); first | done | with_reducible assumption | omega) (by (try rw [c678]); first | done | with_reducible assumption | omega) (by (try rw [c681]); first | done | with_reducible assumption | omega) (by (try rw [c683]); first | done | assumption) (by (try rw [c685]); first | done | assumption) (by (try rw [c687]); first | done | assumption) (by (try rw [((hS652.cell ta0 (by decide +kernel)).trans c26)]); first | done | with_reducible assumption | omega)) ?_
                                      rintro v698 cn' K' N' I693 R694 L695 ⟨rfl, rfl, rfl, rfl, g696, dj699, -⟩
                                      have hM700 : NmM I693 R0 L646 a1 gQ := NmM.kpS hM671 g696 hS652.1 ta1 (by decide +kernel) (by decide +kernel)
                                      have hS701 := hS652.tr g696 (by decide +kernel) (by decide +kernel)
                                      have c702 : I693 a1 0 = v29 := (g696.cell ta1 (by decide +kernel)).trans c653
                                      have c703 : I693 a1 1 = v33 := (g696.cell ta1 (by decide +kernel)).trans c654
                                      have hO704 : FrO 14 a1 T I0 I693 := hO655.st g696 (by decide +kernel)
                                      rcases dj699 with ⟨p705, p706, p707, p708, p709, p710, p711, p712, p713, p714, p715, p716, gl717, -⟩ | ⟨p718, p719, p720, p721, p722, -⟩ | ⟨p723, p724, p725, p726, p727, p728, -⟩
                                      · skip
                                        have hL729 := hL670.tr gl717 (by decide +kernel)
                                        have hM730 : NmM I693 R0 L695 a1 gQ := NmM.kpL hM700 gl717 hS701.1 ta1 (by decide +kernel)
                                        obtain ⟨v731, c732⟩ : ∃ v, I693 a0 13 = v := ⟨_, rfl⟩
                                        rw [c732] at p709
                                        rw [c673] at p709
                                        obtain ⟨v733, c734⟩ : ∃ v, I693 a0 9 = v := ⟨_, rfl⟩
                                        have b735 := iv15_9 hS701.1 ta0 c734
                                        rw [c734] at p710
                                        rw [c734] at p711
                                        obtain ⟨v736, c737⟩ : ∃ v, I693 a0 10 = v := ⟨_, rfl⟩
                                        have b738 := iv15_10 hS701.1 ta0 c737
                                        rw [c737] at p712
                                        obtain ⟨v739, c740⟩ : ∃ v, I693 a0 11 = v := ⟨_, rfl⟩
                                        rw [c740] at p713
                                        obtain ⟨y741, c742⟩ : ∃ v, L695 a0 15 = v := ⟨_, rfl⟩
                                        rw [c742] at p714
                                        obtain ⟨v743, c744⟩ : ∃ v, I693 a0 12 = v := ⟨_, rfl⟩
                                        rw [c744] at p715
                                        obtain ⟨v745, c746⟩ : ∃ v, I693 a0 8 = v := ⟨_, rfl⟩
                                        have b747 := iv15_8 hS701.1 ta0 c746
                                        rw [c746] at p716
                                        replace hF := hF.neg (by omega)
                                        replace hP := hP.neg (by omega)
                                        replace hF := hF.neg (by omega)
                                        replace hP := hP.neg (by omega)
                                        refine q_iast dX12_readAlp_78 (kR53 hS701.1 ta66) (ti_in (nR53 hS701.1 ta66) (by omega) (by omega)) hS701 ta66 (iokF rfl) rfl (by rfl) ?_
                                        intro I748 hS749 e751 f750
                                        have c752 : I748 a1 0 = v29 := (f750 _ _ (fun q => by have z := ta1; rw [q.1, ta66] at z; exact absurd z (by decide))).trans c702
                                        have c753 : I748 a1 1 = v33 := (f750 _ _ (fun q => by have z := ta1; rw [q.1, ta66] at z; exact absurd z (by decide))).trans c703
                                        have c754 : I748 a0 13 = v731 := (f750 _ _ (fun q => by have z := ta0; rw [q.1, ta66] at z; exact absurd z (by decide))).trans c732
                                        have c755 : I748 a0 9 = v733 := (f750 _ _ (fun q => by have z := ta0; rw [q.1, ta66] at z; exact absurd z (by decide))).trans c734
                                        have c756 : I748 a0 10 = v736 := (f750 _ _ (fun q => by have z := ta0; rw [q.1, ta66] at z; exact absurd z (by decide))).trans c737
                                        have c757 : I748 a0 11 = v739 := (f750 _ _ (fun q => by have z := ta0; rw [q.1, ta66] at z; exact absurd z (by decide))).trans c740
                                        have c758 : I748 a0 12 = v743 := (f750 _ _ (fun q => by have z := ta0; rw [q.1, ta66] at z; exact absurd z (by decide))).trans c744
                                        have c759 : I748 a0 8 = v745 := (f750 _ _ (fun q => by have z := ta0; rw [q.1, ta66] at z; exact absurd z (by decide))).trans c746
                                        have hO760 : FrO 14 a1 T I0 I748 := hO704.put f750 ta66 (Or.inl (by decide))
                                        have hM761 : NmM I748 R0 L695 a1 gQ := NmM.kp1 hM730 f750 ta66 rfl rfl hS701.1 ta1
                                        refine q_iincE dX12_readAlp_79 rfl (by decide) (by decide) (by intros; omega) ?_
                                        intro v762 h763
                                        refine tr_goto 48 dX12_readAlp_82 (by decide) ?_
                                        refine tr_iload_n dX12_readAlp_48 rfl ?_
                                        refine q_iconst dX12_readAlp_49 (by decide) ?_
                                        intro v764 h765
                                        refine q_icmp_ge 85 dX12_readAlp_50 (by decide) (fun h766 => ?_) (fun h766 => ?_)
                                        · skip
                                          exfalso; omega
                                        · skip
                                          refine tr_iload_n dX12_readAlp_53 rfl ?_
                                          refine q_if_le 63 dX12_readAlp_54 (by decide) (fun h767 => ?_) (fun h767 => ?_)
                                          · skip
                                            exfalso; omega
                                          · skip
                                            refine tr_aload_n dX12_readAlp_57 rfl ?_
                                            refine q_bipush dX12_readAlp_58 (by decide +kernel) ?_
                                            intro v768 h769
                                            refine q_callVv hE (M' := mX12_needsSign) (as := [_]) dX12_readAlp_60 lk12_257 inX12_needsSign seX12_needsSign myX12_needsSign (by decide) ⟨by decide, by decide⟩ rfl (kR15 hS749.1 ta0) (Nat.le_of_ble_eq_true rfl) rfl rfl (by decide) (by decide) (fk_X12_needsSign hS749.1 (gB) ((tkN gB (tkN gB (tkN gB (tkN gB (tkN gB (tkN gB (tkN gB (tkN gB (tkN gB (tkN gB (tkN gB (tkN gB (tkN gB gs)))))))))))))) ta0 (TxA.kp hT hS749 ta0 rfl rfl rfl (by decide +kernel) (by decide +kernel)) (by (try rw [c755]); first | done | with_reducible assumption | omega) (by (try rw [c755]); first | done | with_reducible assumption | omega) (by (try rw [c756]); first | done | with_reducible assumption | omega) (by (try rw [c757]); first | done | with_reducible assumption | omega) (by (try rw [c742]); first | done | assumption) (by (try rw [c758]); first | done | assumption) (by (try rw [c759]); first | done | assumption) (by (try rw [((hS749.cell ta0 (by decide +kernel)).trans c26)]); first | done | with_reducible assumption | omega) (by first | done | with_reducible assumption | omega)) ?_
                                            rintro cn' K' N' I770 R771 L772 ⟨rfl, rfl, rfl, rfl, g773, dj776, -⟩
                                            have hM777 : NmM I770 R0 L695 a1 gQ := NmM.kpS hM761 g773 hS749.1 ta1 (by decide +kernel) (by decide +kernel)
                                            have hS778 := hS749.tr g773 (by decide +kernel) (by decide +kernel)
                                            have c779 : I770 a1 0 = v29 := (g773.cell ta1 (by decide +kernel)).trans c752
                                            have c780 : I770 a1 1 = v33 := (g773.cell ta1 (by decide +kernel)).trans c753
                                            have hO781 : FrO 14 a1 T I0 I770 := hO760.st g773 (by decide +kernel)
                                            rcases dj776 with ⟨p782, p783, p784, p785, p786, p787, p788, p789, p790, gl791, -⟩ | ⟨p792, p793, p794, p795, -⟩
                                            · skip
                                              have hL796 := hL729.tr gl791 (by decide +kernel)
                                              have hM797 : NmM I770 R0 L772 a1 gQ := NmM.kpL hM777 gl791 hS778.1 ta1 (by decide +kernel)
                                              obtain ⟨v798, c799⟩ : ∃ v, I770 a0 13 = v := ⟨_, rfl⟩
                                              rw [c799] at p783
                                              rw [c754] at p783
                                              obtain ⟨v800, c801⟩ : ∃ v, I770 a0 9 = v := ⟨_, rfl⟩
                                              have b802 := iv15_9 hS778.1 ta0 c801
                                              rw [c801] at p784
                                              rw [c801] at p785
                                              obtain ⟨v803, c804⟩ : ∃ v, I770 a0 10 = v := ⟨_, rfl⟩
                                              have b805 := iv15_10 hS778.1 ta0 c804
                                              rw [c804] at p786
                                              obtain ⟨v806, c807⟩ : ∃ v, I770 a0 11 = v := ⟨_, rfl⟩
                                              rw [c807] at p787
                                              obtain ⟨y808, c809⟩ : ∃ v, L772 a0 15 = v := ⟨_, rfl⟩
                                              rw [c809] at p788
                                              obtain ⟨v810, c811⟩ : ∃ v, I770 a0 12 = v := ⟨_, rfl⟩
                                              rw [c811] at p789
                                              obtain ⟨v812, c813⟩ : ∃ v, I770 a0 8 = v := ⟨_, rfl⟩
                                              have b814 := iv15_8 hS778.1 ta0 c813
                                              rw [c813] at p790
                                              replace hF := hF.neg (by omega)
                                              replace hP := hP.neg (by omega)
                                              refine tr_aload_n dX12_readAlp_63 rfl ?_
                                              refine tr_getR dX12_readAlp_64 fl12_188 (kR15 hS778.1 ta0) d2 ?_
                                              refine tr_getR dX12_readAlp_67 fl12_260 (kR14 hS778.1 ta1) d67 ?_
                                              refine tr_iload_n dX12_readAlp_70 rfl ?_
                                              refine tr_aload_n dX12_readAlp_71 rfl ?_
                                              refine q_iconst dX12_readAlp_72 (by decide) ?_
                                              intro v815 h816
                                              refine q_bipush dX12_readAlp_73 (by decide +kernel) ?_
                                              intro v817 h818
                                              refine q_callVi hE (M' := mX12_readWhole) (as := [_, _]) dX12_readAlp_75 lk12_161 inX12_readWhole seX12_readWhole myX12_readWhole (by decide) ⟨by decide, by decide⟩ rfl (kR15 hS778.1 ta0) (Nat.le_of_ble_eq_true rfl) rfl rfl (by decide) (by decide) (fk_X12_readWhole hS778.1 (gB) ((tkN gB (tkN gB (tkN gB (tkN gB (tkN gB (tkN gB (tkN gB (tkN gB (tkN gB (tkN gB (tkN gB (tkN gB (tkN gB (tkN gB gs))))))))))))))) ta0 (TxA.kp hT hS778 ta0 rfl rfl rfl (by decide +kernel) (by decide +kernel)) (by (try rw [c801]); first | done | with_reducible assumption | omega) (by (try rw [c801]); first | done | with_reducible assumption | omega) (by (try rw [c804]); first | done | with_reducible assumption | omega) (by (try rw [c807]); first | done | with_reducible assumption | omega) (by (try rw [c809]); first | done | assumption) (by (try rw [c811]); first | done | assumption) (by (try rw [c813]); first | done | assumption) (by (try rw [((hS778.cell ta0 (by decide +kernel)).trans c26)]); first | done | with_reducible assumption | omega)) ?_
                                              rintro v824 cn' K' N' I819 R820 L821 ⟨rfl, rfl, rfl, rfl, g822, dj825, -⟩
                                              have hM826 : NmM I819 R0 L772 a1 gQ := NmM.kpS hM797 g822 hS778.1 ta1 (by decide +kernel) (by decide +kernel)
                                              have hS827 := hS778.tr g822 (by decide +kernel) (by decide +kernel)
                                              have c828 : I819 a1 0 = v29 := (g822.cell ta1 (by decide +kernel)).trans c779
                                              have c829 : I819 a1 1 = v33 := (g822.cell ta1 (by decide +kernel)).trans c780
                                              have hO830 : FrO 14 a1 T I0 I819 := hO781.st g822 (by decide +kernel)
                                              rcases dj825 with ⟨p831, p832, p833, p834, p835, p836, p837, p838, p839, p840, p841, p842, gl843, -⟩ | ⟨p844, p845, p846, p847, p848, -⟩ | ⟨p849, p850, p851, p852, p853, p854, -⟩
                                              · skip
                                                have hL855 := hL796.tr gl843 (by decide +kernel)
                                                have hM856 : NmM I819 R0 L821 a1 gQ := NmM.kpL hM826 gl843 hS827.1 ta1 (by decide +kernel)
                                                obtain ⟨v857, c858⟩ : ∃ v, I819 a0 13 = v := ⟨_, rfl⟩
                                                rw [c858] at p835
                                                rw [c799] at p835
                                                obtain ⟨v859, c860⟩ : ∃ v, I819 a0 9 = v := ⟨_, rfl⟩
                                                have b861 := iv15_9 hS827.1 ta0 c860
                                                rw [c860] at p836
                                                rw [c860] at p837
                                                obtain ⟨v862, c863⟩ : ∃ v, I819 a0 10 = v := ⟨_, rfl⟩
                                                have b864 := iv15_10 hS827.1 ta0 c863
                                                rw [c863] at p838
                                                obtain ⟨v865, c866⟩ : ∃ v, I819 a0 11 = v := ⟨_, rfl⟩
                                                rw [c866] at p839
                                                obtain ⟨y867, c868⟩ : ∃ v, L821 a0 15 = v := ⟨_, rfl⟩
                                                rw [c868] at p840
                                                obtain ⟨v869, c870⟩ : ∃ v, I819 a0 12 = v := ⟨_, rfl⟩
                                                rw [c870] at p841
                                                obtain ⟨v871, c872⟩ : ∃ v, I819 a0 8 = v := ⟨_, rfl⟩
                                                have b873 := iv15_8 hS827.1 ta0 c872
                                                rw [c872] at p842
                                                replace hF := hF.neg (by omega)
                                                replace hP := hP.neg (by omega)
                                                replace hF := hF.neg (by omega)
                                                replace hP := hP.neg (by omega)
                                                refine q_iast dX12_readAlp_78 (kR53 hS827.1 ta66) (ti_in (nR53 hS827.1 ta66) (by omega) (by omega)) hS827 ta66 (iokF rfl) rfl (by rfl) ?_
                                                intro I874 hS875 e877 f876
                                                have c878 : I874 a1 0 = v29 := (f876 _ _ (fun q => by have z := ta1; rw [q.1, ta66] at z; exact absurd z (by decide))).trans c828
                                                have c879 : I874 a1 1 = v33 := (f876 _ _ (fun q => by have z := ta1; rw [q.1, ta66] at z; exact absurd z (by decide))).trans c829
                                                have c880 : I874 a0 13 = v857 := (f876 _ _ (fun q => by have z := ta0; rw [q.1, ta66] at z; exact absurd z (by decide))).trans c858
                                                have c881 : I874 a0 9 = v859 := (f876 _ _ (fun q => by have z := ta0; rw [q.1, ta66] at z; exact absurd z (by decide))).trans c860
                                                have c882 : I874 a0 10 = v862 := (f876 _ _ (fun q => by have z := ta0; rw [q.1, ta66] at z; exact absurd z (by decide))).trans c863
                                                have c883 : I874 a0 11 = v865 := (f876 _ _ (fun q => by have z := ta0; rw [q.1, ta66] at z; exact absurd z (by decide))).trans c866
                                                have c884 : I874 a0 12 = v869 := (f876 _ _ (fun q => by have z := ta0; rw [q.1, ta66] at z; exact absurd z (by decide))).trans c870
                                                have c885 : I874 a0 8 = v871 := (f876 _ _ (fun q => by have z := ta0; rw [q.1, ta66] at z; exact absurd z (by decide))).trans c872
                                                have hO886 : FrO 14 a1 T I0 I874 := hO830.put f876 ta66 (Or.inl (by decide))
                                                have hM887 : NmM I874 R0 L821 a1 gQ := NmM.kp1 hM856 f876 ta66 rfl rfl hS827.1 ta1
                                                refine q_iincE dX12_readAlp_79 rfl (by decide) (by decide) (by intros; omega) ?_
                                                intro v888 h889
                                                refine tr_goto 48 dX12_readAlp_82 (by decide) ?_
                                                refine tr_iload_n dX12_readAlp_48 rfl ?_
                                                refine q_iconst dX12_readAlp_49 (by decide) ?_
                                                intro v890 h891
                                                refine q_icmp_ge 85 dX12_readAlp_50 (by decide) (fun h892 => ?_) (fun h892 => ?_)
                                                · skip
                                                  refine tr_aload_n dX12_readAlp_85 rfl ?_
                                                  refine q_getI dX12_readAlp_86 fl12_99 (kR15 hS875.1 ta0) c881 ?_
                                                  refine q_iconst dX12_readAlp_89 (by decide) ?_
                                                  intro v893 h894
                                                  refine q_icmp_ne 94 dX12_readAlp_90 (by decide) (fun h895 => ?_) (fun h895 => ?_)
                                                  · skip
                                                    refine tr_aload_n dX12_readAlp_94 rfl ?_
                                                    refine tr_getR dX12_readAlp_95 fl12_188 (kR15 hS875.1 ta0) d2 ?_
                                                    refine tr_iload_n dX12_readAlp_98 rfl ?_
                                                    refine q_putX dX12_readAlp_99 fl12_192 (kR14 hS875.1 ta1) (Or.inl rfl) hS875 ta1 (by decide +kernel) (hS875.1.putM ta1 (by omega)) ?_
                                                    intro I896 hS897 e898 f899
                                                    have c900 : I896 a1 1 = v33 := (f899 _ _ (fun q => absurd q.2 (by decide))).trans c879
                                                    have c901 : I896 a0 13 = v857 := (f899 _ _ (fun q => absurd q.2 (by decide))).trans c880
                                                    have c902 : I896 a0 9 = v859 := (f899 _ _ (fun q => absurd q.2 (by decide))).trans c881
                                                    have c903 : I896 a0 10 = v862 := (f899 _ _ (fun q => absurd q.2 (by decide))).trans c882
                                                    have c904 : I896 a0 11 = v865 := (f899 _ _ (fun q => absurd q.2 (by decide))).trans c883
                                                    have c905 : I896 a0 12 = v869 := (f899 _ _ (fun q => absurd q.2 (by decide))).trans c884
                                                    have c906 : I896 a0 8 = v871 := (f899 _ _ (fun q => absurd q.2 (by decide))).trans c885
                                                    have hO907 : FrO 14 a1 T I0 I896 := hO886.put f899 ta1 (Or.inr rfl)
                                                    have hM908 : NmM I896 R0 L821 a1 gQ := NmM.kp1 hM887 f899 ta1 rfl rfl hS875.1 ta1
                                                    refine tr_aload_n dX12_readAlp_102 rfl ?_
                                                    refine tr_getR dX12_readAlp_103 fl12_188 (kR15 hS897.1 ta0) d2 ?_
                                                    refine tr_iload_n dX12_readAlp_106 rfl ?_
                                                    refine q_putI dX12_readAlp_107 fl12_263 (kR14 hS897.1 ta1) (Or.inl rfl) hS897 ta1 (by show (0 : Int) ≤ v198.toInt ∧ v198.toInt ≤ (4 : Int); omega) rfl (by decide +kernel) ?_
                                                    intro I909 hS910 e911 f912
                                                    have c913 : I909 a0 13 = v857 := (f912 _ _ (fun q => absurd q.2 (by decide))).trans c901
                                                    have c914 : I909 a0 9 = v859 := (f912 _ _ (fun q => absurd q.2 (by decide))).trans c902
                                                    have c915 : I909 a0 10 = v862 := (f912 _ _ (fun q => absurd q.2 (by decide))).trans c903
                                                    have c916 : I909 a0 11 = v865 := (f912 _ _ (fun q => absurd q.2 (by decide))).trans c904
                                                    have c917 : I909 a0 12 = v869 := (f912 _ _ (fun q => absurd q.2 (by decide))).trans c905
                                                    have c918 : I909 a0 8 = v871 := (f912 _ _ (fun q => absurd q.2 (by decide))).trans c906
                                                    have c919 : I909 a1 0 = v128 := (f912 _ _ (fun q => absurd q.2 (by decide))).trans e898
                                                    have hO920 : FrO 14 a1 T I0 I909 := hO907.put f912 ta1 (Or.inr rfl)
                                                    have hM921 : NmM I909 R0 L821 a1 gQ := NmM.kp1 hM908 f912 ta1 rfl rfl hS897.1 ta1
                                                    have eF := hF.eq
                                                    have eP := hP.eq
                                                    obtain ⟨v922, c923⟩ : ∃ v, I909 a0 14 = v := ⟨_, rfl⟩
                                                    exact tr_vret hZ dX12_readAlp_110 rfl (by decide) (by decide) ⟨rfl, rfl, rfl, rfl, rfl, hS910, (fun b hb => (Option.some.inj (d2.symm.trans hb)) ▸ (((((((((((((((((((((FrM.rf (R := R0) (b := a1) (T := T)).st g74 (by decide +kernel)).st g126 (by decide +kernel)).st g196 (by decide +kernel)).st g262 (by decide +kernel)).st g318 (by decide +kernel)).pu f372 (by decide) (by decide) d67).st g395 (by decide +kernel)).st g444 (by decide +kernel)).pu f498 (by decide) (by decide) d67).st g521 (by decide +kernel)).st g570 (by decide +kernel)).pu f624 (by decide) (by decide) d67).st g647 (by decide +kernel)).st g696 (by decide +kernel)).pu f750 (by decide) (by decide) d67).st g773 (by decide +kernel)).st g822 (by decide +kernel)).pu f876 (by decide) (by decide) d67).put f899 ta1 (by decide)).put f912 ta1 (by decide))), (fun dr hd => (Option.some.inj (d2.symm.trans hd)) ▸ hO920), (Or.inl ⟨(by (try rw [w109]); first | done | with_reducible assumption | omega), (fun q0 z0 => by obtain rfl := Option.some.inj ((d2).symm.trans z0); (try rw [w109]); (try rw [c919]); first | done | with_reducible assumption | omega), (fun q0 z0 => by obtain rfl := Option.some.inj ((d2).symm.trans z0); (try rw [w109]); (try rw [e911]); first | done | with_reducible assumption | omega), (fun q0 z0 => by obtain rfl := Option.some.inj ((d2).symm.trans z0); (try rw [w109]); (try rw [((hS910.cell ta1 (by decide +kernel)).trans c38)]); first | done | with_reducible assumption | omega), (fun q0 z0 => by obtain rfl := Option.some.inj ((d2).symm.trans z0); (try rw [w109]); (try rw [((hS910.cell ta1 (by decide +kernel)).trans c42)]); first | done | with_reducible assumption | omega), (fun q0 z0 => by obtain rfl := Option.some.inj ((d2).symm.trans z0); (try rw [w109]); (try rw [((hS910.cell ta1 (by decide +kernel)).trans c46)]); first | done | with_reducible assumption | omega), (fun q0 z0 => by obtain rfl := Option.some.inj ((d2).symm.trans z0); (try rw [w109]); (try rw [((hS910.cell ta1 (by decide +kernel)).trans c50)]); first | done | with_reducible assumption | omega), (fun q0 z0 => by obtain rfl := Option.some.inj ((d2).symm.trans z0); (try rw [w109]); (try rw [((hS910.cell ta1 (by decide +kernel)).trans c54)]); first | done | with_reducible assumption | omega), (fun q0 z0 => by obtain rfl := Option.some.inj ((d2).symm.trans z0); (try rw [w109]); (try rw [((hS910.cell ta1 (by decide +kernel)).trans c58)]); first | done | with_reducible assumption | omega), (by (try rw [w109]); (try rw [c913]); (try rw [c65]); first | done | with_reducible assumption | omega), (by (try rw [w109]); (try rw [c914]); first | done | with_reducible assumption | omega), (by (try rw [w109]); (try rw [c914]); first | done | with_reducible assumption | omega), (by (try rw [w109]); (try rw [c915]); first | done | with_reducible assumption | omega), (by (try rw [w109]); (try rw [c916]); first | done | with_reducible assumption | omega), (by (try rw [w109]); (try rw [c868]); first | done | assumption), (by (try rw [w109]); (try rw [c917]); first | done | assumption), (by (try rw [w109]); (try rw [c918]); first | done | assumption), hL855, (fun b hb => (Option.some.inj (d2.symm.trans hb)) ▸ NmM.ln (NmM.bd (k := srt gB gs) hM921 (by omega) (by omega)) rfl), (fun E b hb hE => by obtain rfl := Option.some.inj (d2.symm.trans hb); exact AlM.al hE hW0 ta1 (by omega) (hS910.cell ta1 (by decide +kernel)) (RoF.st (ex := xr 53 53) hS910 (by decide +kernel)) (fun a ha j hj => by obtain rfl := Option.some.inj (d67.symm.trans ha); exact match j, hj with | 0, _ => (by have z := (Eq.trans ((f912 _ _ (fun q => by have z := ta66; rw [q.1, ta1] at z; exact absurd z (by decide))).trans ((f899 _ _ (fun q => by have z := ta66; rw [q.1, ta1] at z; exact absurd z (by decide))).trans ((f876 _ _ (fun q => by have z1 := q.2; have z2 := ti_nat (i := v305) (by omega); have z3 := ti_nat (i := v762) (by omega); omega)).trans ((g822.cell ta66 (wm_no (by decide +kernel))).trans ((g773.cell ta66 (wm_no (by decide +kernel))).trans ((f750 _ _ (fun q => by have z1 := q.2; have z2 := ti_nat (i := v305) (by omega); have z3 := ti_nat (i := v636) (by omega); omega)).trans ((g696.cell ta66 (wm_no (by decide +kernel))).trans ((g647.cell ta66 (wm_no (by decide +kernel))).trans ((f624 _ _ (fun q => by have z1 := q.2; have z2 := ti_nat (i := v305) (by omega); have z3 := ti_nat (i := v510) (by omega); omega)).trans ((g570.cell ta66 (wm_no (by decide +kernel))).trans ((g521.cell ta66 (wm_no (by decide +kernel))).trans ((f498 _ _ (fun q => by have z1 := q.2; have z2 := ti_nat (i := v305) (by omega); have z3 := ti_nat (i := v384) (by omega); omega)).trans ((g444.cell ta66 (wm_no (by decide +kernel))).trans (g395.cell ta66 (wm_no (by decide +kernel)))))))))))))))) e373); rw [show v305.toNatClampNeg = 0 from ti_cl (by omega)] at z; rw [z]; show _ = tkV gB (tkN gB (tkN gB (tkN gB (tkN gB (tkN gB (tkN gB gs)))))); omega) | 1, _ => (by have z := (Eq.trans ((f912 _ _ (fun q => by have z := ta66; rw [q.1, ta1] at z; exact absurd z (by decide))).trans ((f899 _ _ (fun q => by have z := ta66; rw [q.1, ta1] at z; exact absurd z (by decide))).trans ((f876 _ _ (fun q => by have z1 := q.2; have z2 := ti_nat (i := v384) (by omega); have z3 := ti_nat (i := v762) (by omega); omega)).trans ((g822.cell ta66 (wm_no (by decide +kernel))).trans ((g773.cell ta66 (wm_no (by decide +kernel))).trans ((f750 _ _ (fun q => by have z1 := q.2; have z2 := ti_nat (i := v384) (by omega); have z3 := ti_nat (i := v636) (by omega); omega)).trans ((g696.cell ta66 (wm_no (by decide +kernel))).trans ((g647.cell ta66 (wm_no (by decide +kernel))).trans ((f624 _ _ (fun q => by have z1 := q.2; have z2 := ti_nat (i := v384) (by omega); have z3 := ti_nat (i := v510) (by omega); omega)).trans ((g570.cell ta66 (wm_no (by decide +kernel))).trans (g521.cell ta66 (wm_no (by decide +kernel))))))))))))) e499); rw [show v384.toNatClampNeg = 1 from ti_cl (by omega)] at z; rw [z]; show _ = tkV gB (tkN gB (tkN gB (tkN gB (tkN gB (tkN gB (tkN gB (tkN gB (tkN gB gs)))))))); omega) | 2, _ => (by have z := (Eq.trans ((f912 _ _ (fun q => by have z := ta66; rw [q.1, ta1] at z; exact absurd z (by decide))).trans ((f899 _ _ (fun q => by have z := ta66; rw [q.1, ta1] at z; exact absurd z (by decide))).trans ((f876 _ _ (fun q => by have z1 := q.2; have z2 := ti_nat (i := v510) (by omega); have z3 := ti_nat (i := v762) (by omega); omega)).trans ((g822.cell ta66 (wm_no (by decide +kernel))).trans ((g773.cell ta66 (wm_no (by decide +kernel))).trans ((f750 _ _ (fun q => by have z1 := q.2; have z2 := ti_nat (i := v510) (by omega); have z3 := ti_nat (i := v636) (by omega); omega)).trans ((g696.cell ta66 (wm_no (by decide +kernel))).trans (g647.cell ta66 (wm_no (by decide +kernel)))))))))) e625); rw [show v510.toNatClampNeg = 2 from ti_cl (by omega)] at z; rw [z]; show _ = tkV gB (tkN gB (tkN gB (tkN gB (tkN gB (tkN gB (tkN gB (tkN gB (tkN gB (tkN gB (tkN gB gs)))))))))); omega) | 3, _ => (by have z := (Eq.trans ((f912 _ _ (fun q => by have z := ta66; rw [q.1, ta1] at z; exact absurd z (by decide))).trans ((f899 _ _ (fun q => by have z := ta66; rw [q.1, ta1] at z; exact absurd z (by decide))).trans ((f876 _ _ (fun q => by have z1 := q.2; have z2 := ti_nat (i := v636) (by omega); have z3 := ti_nat (i := v762) (by omega); omega)).trans ((g822.cell ta66 (wm_no (by decide +kernel))).trans (g773.cell ta66 (wm_no (by decide +kernel))))))) e751); rw [show v636.toNatClampNeg = 3 from ti_cl (by omega)] at z; rw [z]; show _ = tkV gB (tkN gB (tkN gB (tkN gB (tkN gB (tkN gB (tkN gB (tkN gB (tkN gB (tkN gB (tkN gB (tkN gB (tkN gB gs)))))))))))); omega) | 4, _ => (by have z := (Eq.trans ((f912 _ _ (fun q => by have z := ta66; rw [q.1, ta1] at z; exact absurd z (by decide))).trans (f899 _ _ (fun q => by have z := ta66; rw [q.1, ta1] at z; exact absurd z (by decide)))) e877); rw [show v762.toNatClampNeg = 4 from ti_cl (by omega)] at z; rw [z]; show _ = tkV gB (tkN gB (tkN gB (tkN gB (tkN gB (tkN gB (tkN gB (tkN gB (tkN gB (tkN gB (tkN gB (tkN gB (tkN gB (tkN gB (tkN gB gs)))))))))))))); omega) | j + 5, h => absurd h (by omega))), trivial⟩), trivial⟩
                                                  · skip
                                                    exfalso; omega
                                                · skip
                                                  exfalso; omega
                                              · skip
                                                obtain ⟨v924, c925⟩ : ∃ v, I819 a0 9 = v := ⟨_, rfl⟩
                                                have b926 := iv15_9 hS827.1 ta0 c925
                                                rw [c925] at p846
                                                obtain ⟨v927, c928⟩ : ∃ v, I819 a0 13 = v := ⟨_, rfl⟩
                                                rw [c928] at p847
                                                obtain ⟨v929, c930⟩ : ∃ v, I819 a0 14 = v := ⟨_, rfl⟩
                                                rw [c930] at p848
                                                replace hF := hF.pos (by omega)
                                                replace hP := hP.pos (by omega)
                                                refine q_iast dX12_readAlp_78 (kR53 hS827.1 ta66) (ti_in (nR53 hS827.1 ta66) (by omega) (by omega)) hS827 ta66 (iokF rfl) rfl (by rfl) ?_
                                                intro I931 hS932 e934 f933
                                                have c935 : I931 a1 0 = v29 := (f933 _ _ (fun q => by have z := ta1; rw [q.1, ta66] at z; exact absurd z (by decide))).trans c828
                                                have c936 : I931 a1 1 = v33 := (f933 _ _ (fun q => by have z := ta1; rw [q.1, ta66] at z; exact absurd z (by decide))).trans c829
                                                have c937 : I931 a0 9 = v924 := (f933 _ _ (fun q => by have z := ta0; rw [q.1, ta66] at z; exact absurd z (by decide))).trans c925
                                                have c938 : I931 a0 13 = v927 := (f933 _ _ (fun q => by have z := ta0; rw [q.1, ta66] at z; exact absurd z (by decide))).trans c928
                                                have c939 : I931 a0 14 = v929 := (f933 _ _ (fun q => by have z := ta0; rw [q.1, ta66] at z; exact absurd z (by decide))).trans c930
                                                have hO940 : FrO 14 a1 T I0 I931 := hO830.put f933 ta66 (Or.inl (by decide))
                                                refine q_iincE dX12_readAlp_79 rfl (by decide) (by decide) (by intros; omega) ?_
                                                intro v941 h942
                                                refine tr_goto 48 dX12_readAlp_82 (by decide) ?_
                                                refine tr_iload_n dX12_readAlp_48 rfl ?_
                                                refine q_iconst dX12_readAlp_49 (by decide) ?_
                                                intro v943 h944
                                                refine q_icmp_ge 85 dX12_readAlp_50 (by decide) (fun h945 => ?_) (fun h945 => ?_)
                                                · skip
                                                  refine tr_aload_n dX12_readAlp_85 rfl ?_
                                                  refine q_getI dX12_readAlp_86 fl12_99 (kR15 hS932.1 ta0) c937 ?_
                                                  refine q_iconst dX12_readAlp_89 (by decide) ?_
                                                  intro v946 h947
                                                  refine q_icmp_ne 94 dX12_readAlp_90 (by decide) (fun h948 => ?_) (fun h948 => ?_)
                                                  · skip
                                                    exfalso; omega
                                                  · skip
                                                    have eF := hF.eq
                                                    have eP := hP.eq
                                                    obtain ⟨v949, c950⟩ : ∃ v, I931 a0 10 = v := ⟨_, rfl⟩
                                                    have b951 := iv15_10 hS932.1 ta0 c950
                                                    obtain ⟨v952, c953⟩ : ∃ v, I931 a0 11 = v := ⟨_, rfl⟩
                                                    obtain ⟨y954, c955⟩ : ∃ v, L821 a0 15 = v := ⟨_, rfl⟩
                                                    obtain ⟨v956, c957⟩ : ∃ v, I931 a0 12 = v := ⟨_, rfl⟩
                                                    obtain ⟨v958, c959⟩ : ∃ v, I931 a0 8 = v := ⟨_, rfl⟩
                                                    have b960 := iv15_8 hS932.1 ta0 c959
                                                    exact tr_vret hZ dX12_readAlp_93 rfl (by decide) (by decide) ⟨rfl, rfl, rfl, rfl, rfl, hS932, (fun b hb => (Option.some.inj (d2.symm.trans hb)) ▸ (((((((((((((((((((FrM.rf (R := R0) (b := a1) (T := T)).st g74 (by decide +kernel)).st g126 (by decide +kernel)).st g196 (by decide +kernel)).st g262 (by decide +kernel)).st g318 (by decide +kernel)).pu f372 (by decide) (by decide) d67).st g395 (by decide +kernel)).st g444 (by decide +kernel)).pu f498 (by decide) (by decide) d67).st g521 (by decide +kernel)).st g570 (by decide +kernel)).pu f624 (by decide) (by decide) d67).st g647 (by decide +kernel)).st g696 (by decide +kernel)).pu f750 (by decide) (by decide) d67).st g773 (by decide +kernel)).st g822 (by decide +kernel)).pu f933 (by decide) (by decide) d67)), (fun dr hd => (Option.some.inj (d2.symm.trans hd)) ▸ hO940), (Or.inr (⟨(by (try rw [w109]); first | done | with_reducible assumption | omega), (by (try rw [w109]); (try rw [c937]); first | done | with_reducible assumption | omega), (by (try rw [w109]); (try rw [c938]); first | done | with_reducible assumption | omega), (by (try rw [w109]); (try rw [c939]); first | done | with_reducible assumption | omega), trivial⟩)), trivial⟩
                                                · skip
                                                  exfalso; omega
                                              · skip
                                                obtain ⟨v961, c962⟩ : ∃ v, I819 a0 9 = v := ⟨_, rfl⟩
                                                have b963 := iv15_9 hS827.1 ta0 c962
                                                rw [c962] at p852
                                                obtain ⟨v964, c965⟩ : ∃ v, I819 a0 13 = v := ⟨_, rfl⟩
                                                rw [c965] at p853
                                                obtain ⟨v966, c967⟩ : ∃ v, I819 a0 14 = v := ⟨_, rfl⟩
                                                rw [c967] at p854
                                                replace hF := hF.neg (by omega)
                                                replace hP := hP.neg (by omega)
                                                replace hF := hF.pos (by omega)
                                                replace hP := hP.pos (by omega)
                                                refine q_iast dX12_readAlp_78 (kR53 hS827.1 ta66) (ti_in (nR53 hS827.1 ta66) (by omega) (by omega)) hS827 ta66 (iokF rfl) rfl (by rfl) ?_
                                                intro I968 hS969 e971 f970
                                                have c972 : I968 a1 0 = v29 := (f970 _ _ (fun q => by have z := ta1; rw [q.1, ta66] at z; exact absurd z (by decide))).trans c828
                                                have c973 : I968 a1 1 = v33 := (f970 _ _ (fun q => by have z := ta1; rw [q.1, ta66] at z; exact absurd z (by decide))).trans c829
                                                have c974 : I968 a0 9 = v961 := (f970 _ _ (fun q => by have z := ta0; rw [q.1, ta66] at z; exact absurd z (by decide))).trans c962
                                                have c975 : I968 a0 13 = v964 := (f970 _ _ (fun q => by have z := ta0; rw [q.1, ta66] at z; exact absurd z (by decide))).trans c965
                                                have c976 : I968 a0 14 = v966 := (f970 _ _ (fun q => by have z := ta0; rw [q.1, ta66] at z; exact absurd z (by decide))).trans c967
                                                have hO977 : FrO 14 a1 T I0 I968 := hO830.put f970 ta66 (Or.inl (by decide))
                                                refine q_iincE dX12_readAlp_79 rfl (by decide) (by decide) (by intros; omega) ?_
                                                intro v978 h979
                                                refine tr_goto 48 dX12_readAlp_82 (by decide) ?_
                                                refine tr_iload_n dX12_readAlp_48 rfl ?_
                                                refine q_iconst dX12_readAlp_49 (by decide) ?_
                                                intro v980 h981
                                                refine q_icmp_ge 85 dX12_readAlp_50 (by decide) (fun h982 => ?_) (fun h982 => ?_)
                                                · skip
                                                  refine tr_aload_n dX12_readAlp_85 rfl ?_
                                                  refine q_getI dX12_readAlp_86 fl12_99 (kR15 hS969.1 ta0) c974 ?_
                                                  refine q_iconst dX12_readAlp_89 (by decide) ?_
                                                  intro v983 h984
                                                  refine q_icmp_ne 94 dX12_readAlp_90 (by decide) (fun h985 => ?_) (fun h985 => ?_)
                                                  · skip
                                                    exfalso; omega
                                                  · skip
                                                    have eF := hF.eq
                                                    have eP := hP.eq
                                                    obtain ⟨v986, c987⟩ : ∃ v, I968 a0 10 = v := ⟨_, rfl⟩
                                                    have b988 := iv15_10 hS969.1 ta0 c987
                                                    obtain ⟨v989, c990⟩ : ∃ v, I968 a0 11 = v := ⟨_, rfl⟩
                                                    obtain ⟨y991, c992⟩ : ∃ v, L821 a0 15 = v := ⟨_, rfl⟩
                                                    obtain ⟨v993, c994⟩ : ∃ v, I968 a0 12 = v := ⟨_, rfl⟩
                                                    obtain ⟨v995, c996⟩ : ∃ v, I968 a0 8 = v := ⟨_, rfl⟩
                                                    have b997 := iv15_8 hS969.1 ta0 c996
                                                    exact tr_vret hZ dX12_readAlp_93 rfl (by decide) (by decide) ⟨rfl, rfl, rfl, rfl, rfl, hS969, (fun b hb => (Option.some.inj (d2.symm.trans hb)) ▸ (((((((((((((((((((FrM.rf (R := R0) (b := a1) (T := T)).st g74 (by decide +kernel)).st g126 (by decide +kernel)).st g196 (by decide +kernel)).st g262 (by decide +kernel)).st g318 (by decide +kernel)).pu f372 (by decide) (by decide) d67).st g395 (by decide +kernel)).st g444 (by decide +kernel)).pu f498 (by decide) (by decide) d67).st g521 (by decide +kernel)).st g570 (by decide +kernel)).pu f624 (by decide) (by decide) d67).st g647 (by decide +kernel)).st g696 (by decide +kernel)).pu f750 (by decide) (by decide) d67).st g773 (by decide +kernel)).st g822 (by decide +kernel)).pu f970 (by decide) (by decide) d67)), (fun dr hd => (Option.some.inj (d2.symm.trans hd)) ▸ hO977), (Or.inr (⟨(by (try rw [w109]); first | done | with_reducible assumption | omega), (by (try rw [w109]); (try rw [c974]); first | done | with_reducible assumption | omega), (by (try rw [w109]); (try rw [c975]); first | done | with_reducible assumption | omega), (by (try rw [w109]); (try rw [c976]); first | done | with_reducible assumption | omega), trivial⟩)), trivial⟩
                                                · skip
                                                  exfalso; omega
                                            · skip
                                              obtain ⟨v998, c999⟩ : ∃ v, I770 a0 9 = v := ⟨_, rfl⟩
                                              have b1000 := iv15_9 hS778.1 ta0 c999
                                              rw [c999] at p793
                                              obtain ⟨v1001, c1002⟩ : ∃ v, I770 a0 13 = v := ⟨_, rfl⟩
                                              rw [c1002] at p794
                                              obtain ⟨v1003, c1004⟩ : ∃ v, I770 a0 14 = v := ⟨_, rfl⟩
                                              rw [c1004] at p795
                                              replace hF := hF.pos (by omega)
                                              replace hP := hP.pos (by omega)
                                              refine tr_aload_n dX12_readAlp_63 rfl ?_
                                              refine tr_getR dX12_readAlp_64 fl12_188 (kR15 hS778.1 ta0) d2 ?_
                                              refine tr_getR dX12_readAlp_67 fl12_260 (kR14 hS778.1 ta1) d67 ?_
                                              refine tr_iload_n dX12_readAlp_70 rfl ?_
                                              refine tr_aload_n dX12_readAlp_71 rfl ?_
                                              refine q_iconst dX12_readAlp_72 (by decide) ?_
                                              intro v1005 h1006
                                              refine q_bipush dX12_readAlp_73 (by decide +kernel) ?_
                                              intro v1007 h1008
                                              refine q_callVi hE (M' := mX12_readWhole) (as := [_, _]) dX12_readAlp_75 lk12_161 inX12_readWhole seX12_readWhole myX12_readWhole (by decide) ⟨by decide, by decide⟩ rfl (kR15 hS778.1 ta0) (Nat.le_of_ble_eq_true rfl) rfl rfl (by decide) (by decide) (k_X12_readWhole hS778.1 ta0) ?_
                                              rintro v1013 cn' K' N' I1009 R1010 L1011 ⟨rfl, rfl, rfl, rfl, g1012, p1014, w1015, -⟩
                                              have hS1016 := hS778.tr g1012 (by decide +kernel) (by decide +kernel)
                                              have c1017 : I1009 a1 0 = v29 := (g1012.cell ta1 (by decide +kernel)).trans c779
                                              have c1018 : I1009 a1 1 = v33 := (g1012.cell ta1 (by decide +kernel)).trans c780
                                              have b1019 : 0 ≤ v1013.toInt ∧ v1013.toInt ≤ 99 := by omega
                                              clear p1014
                                              have hO1020 : FrO 14 a1 T I0 I1009 := hO781.st g1012 (by decide +kernel)
                                              have ov1021 := w1015.over (by rw [c999]; omega)
                                              obtain ⟨v1022, c1023⟩ : ∃ v, I1009 a0 9 = v := ⟨_, rfl⟩
                                              have b1024 := iv15_9 hS1016.1 ta0 c1023
                                              obtain ⟨v1025, c1026⟩ : ∃ v, I1009 a0 13 = v := ⟨_, rfl⟩
                                              obtain ⟨v1027, c1028⟩ : ∃ v, I1009 a0 14 = v := ⟨_, rfl⟩
                                              (try rw [c1023] at ov1021)
                                              (try rw [c1026] at ov1021)
                                              (try rw [c1028] at ov1021)
                                              (try rw [c999] at ov1021)
                                              (try rw [c1002] at ov1021)
                                              (try rw [c1004] at ov1021)
                                              refine q_iast dX12_readAlp_78 (kR53 hS1016.1 ta66) (ti_in (nR53 hS1016.1 ta66) (by omega) (by omega)) hS1016 ta66 (iokF rfl) rfl (by rfl) ?_
                                              intro I1029 hS1030 e1032 f1031
                                              have c1033 : I1029 a1 0 = v29 := (f1031 _ _ (fun q => by have z := ta1; rw [q.1, ta66] at z; exact absurd z (by decide))).trans c1017
                                              have c1034 : I1029 a1 1 = v33 := (f1031 _ _ (fun q => by have z := ta1; rw [q.1, ta66] at z; exact absurd z (by decide))).trans c1018
                                              have c1035 : I1029 a0 9 = v1022 := (f1031 _ _ (fun q => by have z := ta0; rw [q.1, ta66] at z; exact absurd z (by decide))).trans c1023
                                              have c1036 : I1029 a0 13 = v1025 := (f1031 _ _ (fun q => by have z := ta0; rw [q.1, ta66] at z; exact absurd z (by decide))).trans c1026
                                              have c1037 : I1029 a0 14 = v1027 := (f1031 _ _ (fun q => by have z := ta0; rw [q.1, ta66] at z; exact absurd z (by decide))).trans c1028
                                              have hO1038 : FrO 14 a1 T I0 I1029 := hO1020.put f1031 ta66 (Or.inl (by decide))
                                              refine q_iincE dX12_readAlp_79 rfl (by decide) (by decide) (by intros; omega) ?_
                                              intro v1039 h1040
                                              refine tr_goto 48 dX12_readAlp_82 (by decide) ?_
                                              refine tr_iload_n dX12_readAlp_48 rfl ?_
                                              refine q_iconst dX12_readAlp_49 (by decide) ?_
                                              intro v1041 h1042
                                              refine q_icmp_ge 85 dX12_readAlp_50 (by decide) (fun h1043 => ?_) (fun h1043 => ?_)
                                              · skip
                                                refine tr_aload_n dX12_readAlp_85 rfl ?_
                                                refine q_getI dX12_readAlp_86 fl12_99 (kR15 hS1030.1 ta0) c1035 ?_
                                                refine q_iconst dX12_readAlp_89 (by decide) ?_
                                                intro v1044 h1045
                                                refine q_icmp_ne 94 dX12_readAlp_90 (by decide) (fun h1046 => ?_) (fun h1046 => ?_)
                                                · skip
                                                  exfalso; omega
                                                · skip
                                                  have eF := hF.eq
                                                  have eP := hP.eq
                                                  obtain ⟨v1047, c1048⟩ : ∃ v, I1029 a0 10 = v := ⟨_, rfl⟩
                                                  have b1049 := iv15_10 hS1030.1 ta0 c1048
                                                  obtain ⟨v1050, c1051⟩ : ∃ v, I1029 a0 11 = v := ⟨_, rfl⟩
                                                  obtain ⟨y1052, c1053⟩ : ∃ v, L1011 a0 15 = v := ⟨_, rfl⟩
                                                  obtain ⟨v1054, c1055⟩ : ∃ v, I1029 a0 12 = v := ⟨_, rfl⟩
                                                  obtain ⟨v1056, c1057⟩ : ∃ v, I1029 a0 8 = v := ⟨_, rfl⟩
                                                  have b1058 := iv15_8 hS1030.1 ta0 c1057
                                                  exact tr_vret hZ dX12_readAlp_93 rfl (by decide) (by decide) ⟨rfl, rfl, rfl, rfl, rfl, hS1030, (fun b hb => (Option.some.inj (d2.symm.trans hb)) ▸ (((((((((((((((((((FrM.rf (R := R0) (b := a1) (T := T)).st g74 (by decide +kernel)).st g126 (by decide +kernel)).st g196 (by decide +kernel)).st g262 (by decide +kernel)).st g318 (by decide +kernel)).pu f372 (by decide) (by decide) d67).st g395 (by decide +kernel)).st g444 (by decide +kernel)).pu f498 (by decide) (by decide) d67).st g521 (by decide +kernel)).st g570 (by decide +kernel)).pu f624 (by decide) (by decide) d67).st g647 (by decide +kernel)).st g696 (by decide +kernel)).pu f750 (by decide) (by decide) d67).st g773 (by decide +kernel)).st g1012 (by decide +kernel)).pu f1031 (by decide) (by decide) d67)), (fun dr hd => (Option.some.inj (d2.symm.trans hd)) ▸ hO1038), (Or.inr (⟨(by (try rw [w109]); first | done | with_reducible assumption | omega), (by (try rw [w109]); (try rw [c1035]); first | done | with_reducible assumption | omega), (by (try rw [w109]); (try rw [c1036]); first | done | with_reducible assumption | omega), (by (try rw [w109]); (try rw [c1037]); first | done | with_reducible assumption | omega), trivial⟩)), trivial⟩
                                              · skip
                                                exfalso; omega
                                      · skip
                                        obtain ⟨v1059, c1060⟩ : ∃ v, I693 a0 9 = v := ⟨_, rfl⟩
                                        have b1061 := iv15_9 hS701.1 ta0 c1060
                                        rw [c1060] at p720
                                        obtain ⟨v1062, c1063⟩ : ∃ v, I693 a0 13 = v := ⟨_, rfl⟩
                                        rw [c1063] at p721
                                        obtain ⟨v1064, c1065⟩ : ∃ v, I693 a0 14 = v := ⟨_, rfl⟩
                                        rw [c1065] at p722
                                        replace hF := hF.pos (by omega)
                                        replace hP := hP.pos (by omega)
                                        refine q_iast dX12_readAlp_78 (kR53 hS701.1 ta66) (ti_in (nR53 hS701.1 ta66) (by omega) (by omega)) hS701 ta66 (iokF rfl) rfl (by rfl) ?_
                                        intro I1066 hS1067 e1069 f1068
                                        have c1070 : I1066 a1 0 = v29 := (f1068 _ _ (fun q => by have z := ta1; rw [q.1, ta66] at z; exact absurd z (by decide))).trans c702
                                        have c1071 : I1066 a1 1 = v33 := (f1068 _ _ (fun q => by have z := ta1; rw [q.1, ta66] at z; exact absurd z (by decide))).trans c703
                                        have c1072 : I1066 a0 9 = v1059 := (f1068 _ _ (fun q => by have z := ta0; rw [q.1, ta66] at z; exact absurd z (by decide))).trans c1060
                                        have c1073 : I1066 a0 13 = v1062 := (f1068 _ _ (fun q => by have z := ta0; rw [q.1, ta66] at z; exact absurd z (by decide))).trans c1063
                                        have c1074 : I1066 a0 14 = v1064 := (f1068 _ _ (fun q => by have z := ta0; rw [q.1, ta66] at z; exact absurd z (by decide))).trans c1065
                                        have hO1075 : FrO 14 a1 T I0 I1066 := hO704.put f1068 ta66 (Or.inl (by decide))
                                        refine q_iincE dX12_readAlp_79 rfl (by decide) (by decide) (by intros; omega) ?_
                                        intro v1076 h1077
                                        refine tr_goto 48 dX12_readAlp_82 (by decide) ?_
                                        refine tr_iload_n dX12_readAlp_48 rfl ?_
                                        refine q_iconst dX12_readAlp_49 (by decide) ?_
                                        intro v1078 h1079
                                        refine q_icmp_ge 85 dX12_readAlp_50 (by decide) (fun h1080 => ?_) (fun h1080 => ?_)
                                        · skip
                                          exfalso; omega
                                        · skip
                                          refine tr_iload_n dX12_readAlp_53 rfl ?_
                                          refine q_if_le 63 dX12_readAlp_54 (by decide) (fun h1081 => ?_) (fun h1081 => ?_)
                                          · skip
                                            exfalso; omega
                                          · skip
                                            refine tr_aload_n dX12_readAlp_57 rfl ?_
                                            refine q_bipush dX12_readAlp_58 (by decide +kernel) ?_
                                            intro v1082 h1083
                                            refine q_callVv hE (M' := mX12_needsSign) (as := [_]) dX12_readAlp_60 lk12_257 inX12_needsSign seX12_needsSign myX12_needsSign (by decide) ⟨by decide, by decide⟩ rfl (kR15 hS1067.1 ta0) (Nat.le_of_ble_eq_true rfl) rfl rfl (by decide) (by decide) (k_X12_needsSign hS1067.1 ta0) ?_
                                            rintro cn' K' N' I1084 R1085 L1086 ⟨rfl, rfl, rfl, rfl, g1087, w1089, -⟩
                                            have hS1090 := hS1067.tr g1087 (by decide +kernel) (by decide +kernel)
                                            have c1091 : I1084 a1 0 = v29 := (g1087.cell ta1 (by decide +kernel)).trans c1070
                                            have c1092 : I1084 a1 1 = v33 := (g1087.cell ta1 (by decide +kernel)).trans c1071
                                            have hO1093 : FrO 14 a1 T I0 I1084 := hO1075.st g1087 (by decide +kernel)
                                            have ov1094 := w1089.over (by rw [c1072]; omega)
                                            obtain ⟨v1095, c1096⟩ : ∃ v, I1084 a0 9 = v := ⟨_, rfl⟩
                                            have b1097 := iv15_9 hS1090.1 ta0 c1096
                                            obtain ⟨v1098, c1099⟩ : ∃ v, I1084 a0 13 = v := ⟨_, rfl⟩
                                            obtain ⟨v1100, c1101⟩ : ∃ v, I1084 a0 14 = v := ⟨_, rfl⟩
                                            (try rw [c1096] at ov1094)
                                            (try rw [c1099] at ov1094)
                                            (try rw [c1101] at ov1094)
                                            (try rw [c1072] at ov1094)
                                            (try rw [c1073] at ov1094)
                                            (try rw [c1074] at ov1094)
                                            refine tr_aload_n dX12_readAlp_63 rfl ?_
                                            refine tr_getR dX12_readAlp_64 fl12_188 (kR15 hS1090.1 ta0) d2 ?_
                                            refine tr_getR dX12_readAlp_67 fl12_260 (kR14 hS1090.1 ta1) d67 ?_
                                            refine tr_iload_n dX12_readAlp_70 rfl ?_
                                            refine tr_aload_n dX12_readAlp_71 rfl ?_
                                            refine q_iconst dX12_readAlp_72 (by decide) ?_
                                            intro v1102 h1103
                                            refine q_bipush dX12_readAlp_73 (by decide +kernel) ?_
                                            intro v1104 h1105
                                            refine q_callVi hE (M' := mX12_readWhole) (as := [_, _]) dX12_readAlp_75 lk12_161 inX12_readWhole seX12_readWhole myX12_readWhole (by decide) ⟨by decide, by decide⟩ rfl (kR15 hS1090.1 ta0) (Nat.le_of_ble_eq_true rfl) rfl rfl (by decide) (by decide) (k_X12_readWhole hS1090.1 ta0) ?_
                                            rintro v1110 cn' K' N' I1106 R1107 L1108 ⟨rfl, rfl, rfl, rfl, g1109, p1111, w1112, -⟩
                                            have hS1113 := hS1090.tr g1109 (by decide +kernel) (by decide +kernel)
                                            have c1114 : I1106 a1 0 = v29 := (g1109.cell ta1 (by decide +kernel)).trans c1091
                                            have c1115 : I1106 a1 1 = v33 := (g1109.cell ta1 (by decide +kernel)).trans c1092
                                            have b1116 : 0 ≤ v1110.toInt ∧ v1110.toInt ≤ 99 := by omega
                                            clear p1111
                                            have hO1117 : FrO 14 a1 T I0 I1106 := hO1093.st g1109 (by decide +kernel)
                                            have ov1118 := w1112.over (by rw [c1096]; omega)
                                            obtain ⟨v1119, c1120⟩ : ∃ v, I1106 a0 9 = v := ⟨_, rfl⟩
                                            have b1121 := iv15_9 hS1113.1 ta0 c1120
                                            obtain ⟨v1122, c1123⟩ : ∃ v, I1106 a0 13 = v := ⟨_, rfl⟩
                                            obtain ⟨v1124, c1125⟩ : ∃ v, I1106 a0 14 = v := ⟨_, rfl⟩
                                            (try rw [c1120] at ov1118)
                                            (try rw [c1123] at ov1118)
                                            (try rw [c1125] at ov1118)
                                            (try rw [c1096] at ov1118)
                                            (try rw [c1099] at ov1118)
                                            (try rw [c1101] at ov1118)
                                            refine q_iast dX12_readAlp_78 (kR53 hS1113.1 ta66) (ti_in (nR53 hS1113.1 ta66) (by omega) (by omega)) hS1113 ta66 (iokF rfl) rfl (by rfl) ?_
                                            intro I1126 hS1127 e1129 f1128
                                            have c1130 : I1126 a1 0 = v29 := (f1128 _ _ (fun q => by have z := ta1; rw [q.1, ta66] at z; exact absurd z (by decide))).trans c1114
                                            have c1131 : I1126 a1 1 = v33 := (f1128 _ _ (fun q => by have z := ta1; rw [q.1, ta66] at z; exact absurd z (by decide))).trans c1115
                                            have c1132 : I1126 a0 9 = v1119 := (f1128 _ _ (fun q => by have z := ta0; rw [q.1, ta66] at z; exact absurd z (by decide))).trans c1120
                                            have c1133 : I1126 a0 13 = v1122 := (f1128 _ _ (fun q => by have z := ta0; rw [q.1, ta66] at z; exact absurd z (by decide))).trans c1123
                                            have c1134 : I1126 a0 14 = v1124 := (f1128 _ _ (fun q => by have z := ta0; rw [q.1, ta66] at z; exact absurd z (by decide))).trans c1125
                                            have hO1135 : FrO 14 a1 T I0 I1126 := hO1117.put f1128 ta66 (Or.inl (by decide))
                                            refine q_iincE dX12_readAlp_79 rfl (by decide) (by decide) (by intros; omega) ?_
                                            intro v1136 h1137
                                            refine tr_goto 48 dX12_readAlp_82 (by decide) ?_
                                            refine tr_iload_n dX12_readAlp_48 rfl ?_
                                            refine q_iconst dX12_readAlp_49 (by decide) ?_
                                            intro v1138 h1139
                                            refine q_icmp_ge 85 dX12_readAlp_50 (by decide) (fun h1140 => ?_) (fun h1140 => ?_)
                                            · skip
                                              refine tr_aload_n dX12_readAlp_85 rfl ?_
                                              refine q_getI dX12_readAlp_86 fl12_99 (kR15 hS1127.1 ta0) c1132 ?_
                                              refine q_iconst dX12_readAlp_89 (by decide) ?_
                                              intro v1141 h1142
                                              refine q_icmp_ne 94 dX12_readAlp_90 (by decide) (fun h1143 => ?_) (fun h1143 => ?_)
                                              · skip
                                                exfalso; omega
                                              · skip
                                                have eF := hF.eq
                                                have eP := hP.eq
                                                obtain ⟨v1144, c1145⟩ : ∃ v, I1126 a0 10 = v := ⟨_, rfl⟩
                                                have b1146 := iv15_10 hS1127.1 ta0 c1145
                                                obtain ⟨v1147, c1148⟩ : ∃ v, I1126 a0 11 = v := ⟨_, rfl⟩
                                                obtain ⟨y1149, c1150⟩ : ∃ v, L1108 a0 15 = v := ⟨_, rfl⟩
                                                obtain ⟨v1151, c1152⟩ : ∃ v, I1126 a0 12 = v := ⟨_, rfl⟩
                                                obtain ⟨v1153, c1154⟩ : ∃ v, I1126 a0 8 = v := ⟨_, rfl⟩
                                                have b1155 := iv15_8 hS1127.1 ta0 c1154
                                                exact tr_vret hZ dX12_readAlp_93 rfl (by decide) (by decide) ⟨rfl, rfl, rfl, rfl, rfl, hS1127, (fun b hb => (Option.some.inj (d2.symm.trans hb)) ▸ (((((((((((((((((((FrM.rf (R := R0) (b := a1) (T := T)).st g74 (by decide +kernel)).st g126 (by decide +kernel)).st g196 (by decide +kernel)).st g262 (by decide +kernel)).st g318 (by decide +kernel)).pu f372 (by decide) (by decide) d67).st g395 (by decide +kernel)).st g444 (by decide +kernel)).pu f498 (by decide) (by decide) d67).st g521 (by decide +kernel)).st g570 (by decide +kernel)).pu f624 (by decide) (by decide) d67).st g647 (by decide +kernel)).st g696 (by decide +kernel)).pu f1068 (by decide) (by decide) d67).st g1087 (by decide +kernel)).st g1109 (by decide +kernel)).pu f1128 (by decide) (by decide) d67)), (fun dr hd => (Option.some.inj (d2.symm.trans hd)) ▸ hO1135), (Or.inr (⟨(by (try rw [w109]); first | done | with_reducible assumption | omega), (by (try rw [w109]); (try rw [c1132]); first | done | with_reducible assumption | omega), (by (try rw [w109]); (try rw [c1133]); first | done | with_reducible assumption | omega), (by (try rw [w109]); (try rw [c1134]); first | done | with_reducible assumption | omega), trivial⟩)), trivial⟩
                                            · skip
                                              exfalso; omega
                                      · skip
                                        obtain ⟨v1156, c1157⟩ : ∃ v, I693 a0 9 = v := ⟨_, rfl⟩
                                        have b1158 := iv15_9 hS701.1 ta0 c1157
                                        rw [c1157] at p726
                                        obtain ⟨v1159, c1160⟩ : ∃ v, I693 a0 13 = v := ⟨_, rfl⟩
                                        rw [c1160] at p727
                                        obtain ⟨v1161, c1162⟩ : ∃ v, I693 a0 14 = v := ⟨_, rfl⟩
                                        rw [c1162] at p728
                                        replace hF := hF.neg (by omega)
                                        replace hP := hP.neg (by omega)
                                        replace hF := hF.pos (by omega)
                                        replace hP := hP.pos (by omega)
                                        refine q_iast dX12_readAlp_78 (kR53 hS701.1 ta66) (ti_in (nR53 hS701.1 ta66) (by omega) (by omega)) hS701 ta66 (iokF rfl) rfl (by rfl) ?_
                                        intro I1163 hS1164 e1166 f1165
                                        have c1167 : I1163 a1 0 = v29 := (f1165 _ _ (fun q => by have z := ta1; rw [q.1, ta66] at z; exact absurd z (by decide))).trans c702
                                        have c1168 : I1163 a1 1 = v33 := (f1165 _ _ (fun q => by have z := ta1; rw [q.1, ta66] at z; exact absurd z (by decide))).trans c703
                                        have c1169 : I1163 a0 9 = v1156 := (f1165 _ _ (fun q => by have z := ta0; rw [q.1, ta66] at z; exact absurd z (by decide))).trans c1157
                                        have c1170 : I1163 a0 13 = v1159 := (f1165 _ _ (fun q => by have z := ta0; rw [q.1, ta66] at z; exact absurd z (by decide))).trans c1160
                                        have c1171 : I1163 a0 14 = v1161 := (f1165 _ _ (fun q => by have z := ta0; rw [q.1, ta66] at z; exact absurd z (by decide))).trans c1162
                                        have hO1172 : FrO 14 a1 T I0 I1163 := hO704.put f1165 ta66 (Or.inl (by decide))
                                        refine q_iincE dX12_readAlp_79 rfl (by decide) (by decide) (by intros; omega) ?_
                                        intro v1173 h1174
                                        refine tr_goto 48 dX12_readAlp_82 (by decide) ?_
                                        refine tr_iload_n dX12_readAlp_48 rfl ?_
                                        refine q_iconst dX12_readAlp_49 (by decide) ?_
                                        intro v1175 h1176
                                        refine q_icmp_ge 85 dX12_readAlp_50 (by decide) (fun h1177 => ?_) (fun h1177 => ?_)
                                        · skip
                                          exfalso; omega
                                        · skip
                                          refine tr_iload_n dX12_readAlp_53 rfl ?_
                                          refine q_if_le 63 dX12_readAlp_54 (by decide) (fun h1178 => ?_) (fun h1178 => ?_)
                                          · skip
                                            exfalso; omega
                                          · skip
                                            refine tr_aload_n dX12_readAlp_57 rfl ?_
                                            refine q_bipush dX12_readAlp_58 (by decide +kernel) ?_
                                            intro v1179 h1180
                                            refine q_callVv hE (M' := mX12_needsSign) (as := [_]) dX12_readAlp_60 lk12_257 inX12_needsSign seX12_needsSign myX12_needsSign (by decide) ⟨by decide, by decide⟩ rfl (kR15 hS1164.1 ta0) (Nat.le_of_ble_eq_true rfl) rfl rfl (by decide) (by decide) (k_X12_needsSign hS1164.1 ta0) ?_
                                            rintro cn' K' N' I1181 R1182 L1183 ⟨rfl, rfl, rfl, rfl, g1184, w1186, -⟩
                                            have hS1187 := hS1164.tr g1184 (by decide +kernel) (by decide +kernel)
                                            have c1188 : I1181 a1 0 = v29 := (g1184.cell ta1 (by decide +kernel)).trans c1167
                                            have c1189 : I1181 a1 1 = v33 := (g1184.cell ta1 (by decide +kernel)).trans c1168
                                            have hO1190 : FrO 14 a1 T I0 I1181 := hO1172.st g1184 (by decide +kernel)
                                            have ov1191 := w1186.over (by rw [c1169]; omega)
                                            obtain ⟨v1192, c1193⟩ : ∃ v, I1181 a0 9 = v := ⟨_, rfl⟩
                                            have b1194 := iv15_9 hS1187.1 ta0 c1193
                                            obtain ⟨v1195, c1196⟩ : ∃ v, I1181 a0 13 = v := ⟨_, rfl⟩
                                            obtain ⟨v1197, c1198⟩ : ∃ v, I1181 a0 14 = v := ⟨_, rfl⟩
                                            (try rw [c1193] at ov1191)
                                            (try rw [c1196] at ov1191)
                                            (try rw [c1198] at ov1191)
                                            (try rw [c1169] at ov1191)
                                            (try rw [c1170] at ov1191)
                                            (try rw [c1171] at ov1191)
                                            refine tr_aload_n dX12_readAlp_63 rfl ?_
                                            refine tr_getR dX12_readAlp_64 fl12_188 (kR15 hS1187.1 ta0) d2 ?_
                                            refine tr_getR dX12_readAlp_67 fl12_260 (kR14 hS1187.1 ta1) d67 ?_
                                            refine tr_iload_n dX12_readAlp_70 rfl ?_
                                            refine tr_aload_n dX12_readAlp_71 rfl ?_
                                            refine q_iconst dX12_readAlp_72 (by decide) ?_
                                            intro v1199 h1200
                                            refine q_bipush dX12_readAlp_73 (by decide +kernel) ?_
                                            intro v1201 h1202
                                            refine q_callVi hE (M' := mX12_readWhole) (as := [_, _]) dX12_readAlp_75 lk12_161 inX12_readWhole seX12_readWhole myX12_readWhole (by decide) ⟨by decide, by decide⟩ rfl (kR15 hS1187.1 ta0) (Nat.le_of_ble_eq_true rfl) rfl rfl (by decide) (by decide) (k_X12_readWhole hS1187.1 ta0) ?_
                                            rintro v1207 cn' K' N' I1203 R1204 L1205 ⟨rfl, rfl, rfl, rfl, g1206, p1208, w1209, -⟩
                                            have hS1210 := hS1187.tr g1206 (by decide +kernel) (by decide +kernel)
                                            have c1211 : I1203 a1 0 = v29 := (g1206.cell ta1 (by decide +kernel)).trans c1188
                                            have c1212 : I1203 a1 1 = v33 := (g1206.cell ta1 (by decide +kernel)).trans c1189
                                            have b1213 : 0 ≤ v1207.toInt ∧ v1207.toInt ≤ 99 := by omega
                                            clear p1208
                                            have hO1214 : FrO 14 a1 T I0 I1203 := hO1190.st g1206 (by decide +kernel)
                                            have ov1215 := w1209.over (by rw [c1193]; omega)
                                            obtain ⟨v1216, c1217⟩ : ∃ v, I1203 a0 9 = v := ⟨_, rfl⟩
                                            have b1218 := iv15_9 hS1210.1 ta0 c1217
                                            obtain ⟨v1219, c1220⟩ : ∃ v, I1203 a0 13 = v := ⟨_, rfl⟩
                                            obtain ⟨v1221, c1222⟩ : ∃ v, I1203 a0 14 = v := ⟨_, rfl⟩
                                            (try rw [c1217] at ov1215)
                                            (try rw [c1220] at ov1215)
                                            (try rw [c1222] at ov1215)
                                            (try rw [c1193] at ov1215)
                                            (try rw [c1196] at ov1215)
                                            (try rw [c1198] at ov1215)
                                            refine q_iast dX12_readAlp_78 (kR53 hS1210.1 ta66) (ti_in (nR53 hS1210.1 ta66) (by omega) (by omega)) hS1210 ta66 (iokF rfl) rfl (by rfl) ?_
                                            intro I1223 hS1224 e1226 f1225
                                            have c1227 : I1223 a1 0 = v29 := (f1225 _ _ (fun q => by have z := ta1; rw [q.1, ta66] at z; exact absurd z (by decide))).trans c1211
                                            have c1228 : I1223 a1 1 = v33 := (f1225 _ _ (fun q => by have z := ta1; rw [q.1, ta66] at z; exact absurd z (by decide))).trans c1212
                                            have c1229 : I1223 a0 9 = v1216 := (f1225 _ _ (fun q => by have z := ta0; rw [q.1, ta66] at z; exact absurd z (by decide))).trans c1217
                                            have c1230 : I1223 a0 13 = v1219 := (f1225 _ _ (fun q => by have z := ta0; rw [q.1, ta66] at z; exact absurd z (by decide))).trans c1220
                                            have c1231 : I1223 a0 14 = v1221 := (f1225 _ _ (fun q => by have z := ta0; rw [q.1, ta66] at z; exact absurd z (by decide))).trans c1222
                                            have hO1232 : FrO 14 a1 T I0 I1223 := hO1214.put f1225 ta66 (Or.inl (by decide))
                                            refine q_iincE dX12_readAlp_79 rfl (by decide) (by decide) (by intros; omega) ?_
                                            intro v1233 h1234
                                            refine tr_goto 48 dX12_readAlp_82 (by decide) ?_
                                            refine tr_iload_n dX12_readAlp_48 rfl ?_
                                            refine q_iconst dX12_readAlp_49 (by decide) ?_
                                            intro v1235 h1236
                                            refine q_icmp_ge 85 dX12_readAlp_50 (by decide) (fun h1237 => ?_) (fun h1237 => ?_)
                                            · skip
                                              refine tr_aload_n dX12_readAlp_85 rfl ?_
                                              refine q_getI dX12_readAlp_86 fl12_99 (kR15 hS1224.1 ta0) c1229 ?_
                                              refine q_iconst dX12_readAlp_89 (by decide) ?_
                                              intro v1238 h1239
                                              refine q_icmp_ne 94 dX12_readAlp_90 (by decide) (fun h1240 => ?_) (fun h1240 => ?_)
                                              · skip
                                                exfalso; omega
                                              · skip
                                                have eF := hF.eq
                                                have eP := hP.eq
                                                obtain ⟨v1241, c1242⟩ : ∃ v, I1223 a0 10 = v := ⟨_, rfl⟩
                                                have b1243 := iv15_10 hS1224.1 ta0 c1242
                                                obtain ⟨v1244, c1245⟩ : ∃ v, I1223 a0 11 = v := ⟨_, rfl⟩
                                                obtain ⟨y1246, c1247⟩ : ∃ v, L1205 a0 15 = v := ⟨_, rfl⟩
                                                obtain ⟨v1248, c1249⟩ : ∃ v, I1223 a0 12 = v := ⟨_, rfl⟩
                                                obtain ⟨v1250, c1251⟩ : ∃ v, I1223 a0 8 = v := ⟨_, rfl⟩
                                                have b1252 := iv15_8 hS1224.1 ta0 c1251
                                                exact tr_vret hZ dX12_readAlp_93 rfl (by decide) (by decide) ⟨rfl, rfl, rfl, rfl, rfl, hS1224, (fun b hb => (Option.some.inj (d2.symm.trans hb)) ▸ (((((((((((((((((((FrM.rf (R := R0) (b := a1) (T := T)).st g74 (by decide +kernel)).st g126 (by decide +kernel)).st g196 (by decide +kernel)).st g262 (by decide +kernel)).st g318 (by decide +kernel)).pu f372 (by decide) (by decide) d67).st g395 (by decide +kernel)).st g444 (by decide +kernel)).pu f498 (by decide) (by decide) d67).st g521 (by decide +kernel)).st g570 (by decide +kernel)).pu f624 (by decide) (by decide) d67).st g647 (by decide +kernel)).st g696 (by decide +kernel)).pu f1165 (by decide) (by decide) d67).st g1184 (by decide +kernel)).st g1206 (by decide +kernel)).pu f1225 (by decide) (by decide) d67)), (fun dr hd => (Option.some.inj (d2.symm.trans hd)) ▸ hO1232), (Or.inr (⟨(by (try rw [w109]); first | done | with_reducible assumption | omega), (by (try rw [w109]); (try rw [c1229]); first | done | with_reducible assumption | omega), (by (try rw [w109]); (try rw [c1230]); first | done | with_reducible assumption | omega), (by (try rw [w109]); (try rw [c1231]); first | done | with_reducible assumption | omega), trivial⟩)), trivial⟩
                                            · skip
                                              exfalso; omega
                                    · skip
                                      obtain ⟨v1253, c1254⟩ : ∃ v, I644 a0 9 = v := ⟨_, rfl⟩
                                      have b1255 := iv15_9 hS652.1 ta0 c1254
                                      rw [c1254] at p667
                                      obtain ⟨v1256, c1257⟩ : ∃ v, I644 a0 13 = v := ⟨_, rfl⟩
                                      rw [c1257] at p668
                                      obtain ⟨v1258, c1259⟩ : ∃ v, I644 a0 14 = v := ⟨_, rfl⟩
                                      rw [c1259] at p669
                                      replace hF := hF.pos (by omega)
                                      replace hP := hP.pos (by omega)
                                      refine tr_aload_n dX12_readAlp_63 rfl ?_
                                      refine tr_getR dX12_readAlp_64 fl12_188 (kR15 hS652.1 ta0) d2 ?_
                                      refine tr_getR dX12_readAlp_67 fl12_260 (kR14 hS652.1 ta1) d67 ?_
                                      refine tr_iload_n dX12_readAlp_70 rfl ?_
                                      refine tr_aload_n dX12_readAlp_71 rfl ?_
                                      refine q_iconst dX12_readAlp_72 (by decide) ?_
                                      intro v1260 h1261
                                      refine q_bipush dX12_readAlp_73 (by decide +kernel) ?_
                                      intro v1262 h1263
                                      refine q_callVi hE (M' := mX12_readWhole) (as := [_, _]) dX12_readAlp_75 lk12_161 inX12_readWhole seX12_readWhole myX12_readWhole (by decide) ⟨by decide, by decide⟩ rfl (kR15 hS652.1 ta0) (Nat.le_of_ble_eq_true rfl) rfl rfl (by decide) (by decide) (k_X12_readWhole hS652.1 ta0) ?_
                                      rintro v1268 cn' K' N' I1264 R1265 L1266 ⟨rfl, rfl, rfl, rfl, g1267, p1269, w1270, -⟩
                                      have hS1271 := hS652.tr g1267 (by decide +kernel) (by decide +kernel)
                                      have c1272 : I1264 a1 0 = v29 := (g1267.cell ta1 (by decide +kernel)).trans c653
                                      have c1273 : I1264 a1 1 = v33 := (g1267.cell ta1 (by decide +kernel)).trans c654
                                      have b1274 : 0 ≤ v1268.toInt ∧ v1268.toInt ≤ 99 := by omega
                                      clear p1269
                                      have hO1275 : FrO 14 a1 T I0 I1264 := hO655.st g1267 (by decide +kernel)
                                      have ov1276 := w1270.over (by rw [c1254]; omega)
                                      obtain ⟨v1277, c1278⟩ : ∃ v, I1264 a0 9 = v := ⟨_, rfl⟩
                                      have b1279 := iv15_9 hS1271.1 ta0 c1278
                                      obtain ⟨v1280, c1281⟩ : ∃ v, I1264 a0 13 = v := ⟨_, rfl⟩
                                      obtain ⟨v1282, c1283⟩ : ∃ v, I1264 a0 14 = v := ⟨_, rfl⟩
                                      (try rw [c1278] at ov1276)
                                      (try rw [c1281] at ov1276)
                                      (try rw [c1283] at ov1276)
                                      (try rw [c1254] at ov1276)
                                      (try rw [c1257] at ov1276)
                                      (try rw [c1259] at ov1276)
                                      refine q_iast dX12_readAlp_78 (kR53 hS1271.1 ta66) (ti_in (nR53 hS1271.1 ta66) (by omega) (by omega)) hS1271 ta66 (iokF rfl) rfl (by rfl) ?_
                                      intro I1284 hS1285 e1287 f1286
                                      have c1288 : I1284 a1 0 = v29 := (f1286 _ _ (fun q => by have z := ta1; rw [q.1, ta66] at z; exact absurd z (by decide))).trans c1272
                                      have c1289 : I1284 a1 1 = v33 := (f1286 _ _ (fun q => by have z := ta1; rw [q.1, ta66] at z; exact absurd z (by decide))).trans c1273
                                      have c1290 : I1284 a0 9 = v1277 := (f1286 _ _ (fun q => by have z := ta0; rw [q.1, ta66] at z; exact absurd z (by decide))).trans c1278
                                      have c1291 : I1284 a0 13 = v1280 := (f1286 _ _ (fun q => by have z := ta0; rw [q.1, ta66] at z; exact absurd z (by decide))).trans c1281
                                      have c1292 : I1284 a0 14 = v1282 := (f1286 _ _ (fun q => by have z := ta0; rw [q.1, ta66] at z; exact absurd z (by decide))).trans c1283
                                      have hO1293 : FrO 14 a1 T I0 I1284 := hO1275.put f1286 ta66 (Or.inl (by decide))
                                      refine q_iincE dX12_readAlp_79 rfl (by decide) (by decide) (by intros; omega) ?_
                                      intro v1294 h1295
                                      refine tr_goto 48 dX12_readAlp_82 (by decide) ?_
                                      refine tr_iload_n dX12_readAlp_48 rfl ?_
                                      refine q_iconst dX12_readAlp_49 (by decide) ?_
                                      intro v1296 h1297
                                      refine q_icmp_ge 85 dX12_readAlp_50 (by decide) (fun h1298 => ?_) (fun h1298 => ?_)
                                      · skip
                                        exfalso; omega
                                      · skip
                                        refine tr_iload_n dX12_readAlp_53 rfl ?_
                                        refine q_if_le 63 dX12_readAlp_54 (by decide) (fun h1299 => ?_) (fun h1299 => ?_)
                                        · skip
                                          exfalso; omega
                                        · skip
                                          refine tr_aload_n dX12_readAlp_57 rfl ?_
                                          refine q_bipush dX12_readAlp_58 (by decide +kernel) ?_
                                          intro v1300 h1301
                                          refine q_callVv hE (M' := mX12_needsSign) (as := [_]) dX12_readAlp_60 lk12_257 inX12_needsSign seX12_needsSign myX12_needsSign (by decide) ⟨by decide, by decide⟩ rfl (kR15 hS1285.1 ta0) (Nat.le_of_ble_eq_true rfl) rfl rfl (by decide) (by decide) (k_X12_needsSign hS1285.1 ta0) ?_
                                          rintro cn' K' N' I1302 R1303 L1304 ⟨rfl, rfl, rfl, rfl, g1305, w1307, -⟩
                                          have hS1308 := hS1285.tr g1305 (by decide +kernel) (by decide +kernel)
                                          have c1309 : I1302 a1 0 = v29 := (g1305.cell ta1 (by decide +kernel)).trans c1288
                                          have c1310 : I1302 a1 1 = v33 := (g1305.cell ta1 (by decide +kernel)).trans c1289
                                          have hO1311 : FrO 14 a1 T I0 I1302 := hO1293.st g1305 (by decide +kernel)
                                          have ov1312 := w1307.over (by rw [c1290]; omega)
                                          obtain ⟨v1313, c1314⟩ : ∃ v, I1302 a0 9 = v := ⟨_, rfl⟩
                                          have b1315 := iv15_9 hS1308.1 ta0 c1314
                                          obtain ⟨v1316, c1317⟩ : ∃ v, I1302 a0 13 = v := ⟨_, rfl⟩
                                          obtain ⟨v1318, c1319⟩ : ∃ v, I1302 a0 14 = v := ⟨_, rfl⟩
                                          (try rw [c1314] at ov1312)
                                          (try rw [c1317] at ov1312)
                                          (try rw [c1319] at ov1312)
                                          (try rw [c1290] at ov1312)
                                          (try rw [c1291] at ov1312)
                                          (try rw [c1292] at ov1312)
                                          refine tr_aload_n dX12_readAlp_63 rfl ?_
                                          refine tr_getR dX12_readAlp_64 fl12_188 (kR15 hS1308.1 ta0) d2 ?_
                                          refine tr_getR dX12_readAlp_67 fl12_260 (kR14 hS1308.1 ta1) d67 ?_
                                          refine tr_iload_n dX12_readAlp_70 rfl ?_
                                          refine tr_aload_n dX12_readAlp_71 rfl ?_
                                          refine q_iconst dX12_readAlp_72 (by decide) ?_
                                          intro v1320 h1321
                                          refine q_bipush dX12_readAlp_73 (by decide +kernel) ?_
                                          intro v1322 h1323
                                          refine q_callVi hE (M' := mX12_readWhole) (as := [_, _]) dX12_readAlp_75 lk12_161 inX12_readWhole seX12_readWhole myX12_readWhole (by decide) ⟨by decide, by decide⟩ rfl (kR15 hS1308.1 ta0) (Nat.le_of_ble_eq_true rfl) rfl rfl (by decide) (by decide) (k_X12_readWhole hS1308.1 ta0) ?_
                                          rintro v1328 cn' K' N' I1324 R1325 L1326 ⟨rfl, rfl, rfl, rfl, g1327, p1329, w1330, -⟩
                                          have hS1331 := hS1308.tr g1327 (by decide +kernel) (by decide +kernel)
                                          have c1332 : I1324 a1 0 = v29 := (g1327.cell ta1 (by decide +kernel)).trans c1309
                                          have c1333 : I1324 a1 1 = v33 := (g1327.cell ta1 (by decide +kernel)).trans c1310
                                          have b1334 : 0 ≤ v1328.toInt ∧ v1328.toInt ≤ 99 := by omega
                                          clear p1329
                                          have hO1335 : FrO 14 a1 T I0 I1324 := hO1311.st g1327 (by decide +kernel)
                                          have ov1336 := w1330.over (by rw [c1314]; omega)
                                          obtain ⟨v1337, c1338⟩ : ∃ v, I1324 a0 9 = v := ⟨_, rfl⟩
                                          have b1339 := iv15_9 hS1331.1 ta0 c1338
                                          obtain ⟨v1340, c1341⟩ : ∃ v, I1324 a0 13 = v := ⟨_, rfl⟩
                                          obtain ⟨v1342, c1343⟩ : ∃ v, I1324 a0 14 = v := ⟨_, rfl⟩
                                          (try rw [c1338] at ov1336)
                                          (try rw [c1341] at ov1336)
                                          (try rw [c1343] at ov1336)
                                          (try rw [c1314] at ov1336)
                                          (try rw [c1317] at ov1336)
                                          (try rw [c1319] at ov1336)
                                          refine q_iast dX12_readAlp_78 (kR53 hS1331.1 ta66) (ti_in (nR53 hS1331.1 ta66) (by omega) (by omega)) hS1331 ta66 (iokF rfl) rfl (by rfl) ?_
                                          intro I1344 hS1345 e1347 f1346
                                          have c1348 : I1344 a1 0 = v29 := (f1346 _ _ (fun q => by have z := ta1; rw [q.1, ta66] at z; exact absurd z (by decide))).trans c1332
                                          have c1349 : I1344 a1 1 = v33 := (f1346 _ _ (fun q => by have z := ta1; rw [q.1, ta66] at z; exact absurd z (by decide))).trans c1333
                                          have c1350 : I1344 a0 9 = v1337 := (f1346 _ _ (fun q => by have z := ta0; rw [q.1, ta66] at z; exact absurd z (by decide))).trans c1338
                                          have c1351 : I1344 a0 13 = v1340 := (f1346 _ _ (fun q => by have z := ta0; rw [q.1, ta66] at z; exact absurd z (by decide))).trans c1341
                                          have c1352 : I1344 a0 14 = v1342 := (f1346 _ _ (fun q => by have z := ta0; rw [q.1, ta66] at z; exact absurd z (by decide))).trans c1343
                                          have hO1353 : FrO 14 a1 T I0 I1344 := hO1335.put f1346 ta66 (Or.inl (by decide))
                                          refine q_iincE dX12_readAlp_79 rfl (by decide) (by decide) (by intros; omega) ?_
                                          intro v1354 h1355
                                          refine tr_goto 48 dX12_readAlp_82 (by decide) ?_
                                          refine tr_iload_n dX12_readAlp_48 rfl ?_
                                          refine q_iconst dX12_readAlp_49 (by decide) ?_
                                          intro v1356 h1357
                                          refine q_icmp_ge 85 dX12_readAlp_50 (by decide) (fun h1358 => ?_) (fun h1358 => ?_)
                                          · skip
                                            refine tr_aload_n dX12_readAlp_85 rfl ?_
                                            refine q_getI dX12_readAlp_86 fl12_99 (kR15 hS1345.1 ta0) c1350 ?_
                                            refine q_iconst dX12_readAlp_89 (by decide) ?_
                                            intro v1359 h1360
                                            refine q_icmp_ne 94 dX12_readAlp_90 (by decide) (fun h1361 => ?_) (fun h1361 => ?_)
                                            · skip
                                              exfalso; omega
                                            · skip
                                              have eF := hF.eq
                                              have eP := hP.eq
                                              obtain ⟨v1362, c1363⟩ : ∃ v, I1344 a0 10 = v := ⟨_, rfl⟩
                                              have b1364 := iv15_10 hS1345.1 ta0 c1363
                                              obtain ⟨v1365, c1366⟩ : ∃ v, I1344 a0 11 = v := ⟨_, rfl⟩
                                              obtain ⟨y1367, c1368⟩ : ∃ v, L1326 a0 15 = v := ⟨_, rfl⟩
                                              obtain ⟨v1369, c1370⟩ : ∃ v, I1344 a0 12 = v := ⟨_, rfl⟩
                                              obtain ⟨v1371, c1372⟩ : ∃ v, I1344 a0 8 = v := ⟨_, rfl⟩
                                              have b1373 := iv15_8 hS1345.1 ta0 c1372
                                              exact tr_vret hZ dX12_readAlp_93 rfl (by decide) (by decide) ⟨rfl, rfl, rfl, rfl, rfl, hS1345, (fun b hb => (Option.some.inj (d2.symm.trans hb)) ▸ (((((((((((((((((((FrM.rf (R := R0) (b := a1) (T := T)).st g74 (by decide +kernel)).st g126 (by decide +kernel)).st g196 (by decide +kernel)).st g262 (by decide +kernel)).st g318 (by decide +kernel)).pu f372 (by decide) (by decide) d67).st g395 (by decide +kernel)).st g444 (by decide +kernel)).pu f498 (by decide) (by decide) d67).st g521 (by decide +kernel)).st g570 (by decide +kernel)).pu f624 (by decide) (by decide) d67).st g647 (by decide +kernel)).st g1267 (by decide +kernel)).pu f1286 (by decide) (by decide) d67).st g1305 (by decide +kernel)).st g1327 (by decide +kernel)).pu f1346 (by decide) (by decide) d67)), (fun dr hd => (Option.some.inj (d2.symm.trans hd)) ▸ hO1353), (Or.inr (⟨(by (try rw [w109]); first | done | with_reducible assumption | omega), (by (try rw [w109]); (try rw [c1350]); first | done | with_reducible assumption | omega), (by (try rw [w109]); (try rw [c1351]); first | done | with_reducible assumption | omega), (by (try rw [w109]); (try rw [c1352]); first | done | with_reducible assumption | omega), trivial⟩)), trivial⟩
                                          · skip
                                            exfalso; omega
                              · skip
                                obtain ⟨v1374, c1375⟩ : ∃ v, I567 a0 9 = v := ⟨_, rfl⟩
                                have b1376 := iv15_9 hS575.1 ta0 c1375
                                rw [c1375] at p594
                                obtain ⟨v1377, c1378⟩ : ∃ v, I567 a0 13 = v := ⟨_, rfl⟩
                                rw [c1378] at p595
                                obtain ⟨v1379, c1380⟩ : ∃ v, I567 a0 14 = v := ⟨_, rfl⟩
                                rw [c1380] at p596
                                replace hF := hF.pos (by omega)
                                replace hP := hP.pos (by omega)
                                refine q_iast dX12_readAlp_78 (kR53 hS575.1 ta66) (ti_in (nR53 hS575.1 ta66) (by omega) (by omega)) hS575 ta66 (iokF rfl) rfl (by rfl) ?_
                                intro I1381 hS1382 e1384 f1383
                                have c1385 : I1381 a1 0 = v29 := (f1383 _ _ (fun q => by have z := ta1; rw [q.1, ta66] at z; exact absurd z (by decide))).trans c576
                                have c1386 : I1381 a1 1 = v33 := (f1383 _ _ (fun q => by have z := ta1; rw [q.1, ta66] at z; exact absurd z (by decide))).trans c577
                                have c1387 : I1381 a0 9 = v1374 := (f1383 _ _ (fun q => by have z := ta0; rw [q.1, ta66] at z; exact absurd z (by decide))).trans c1375
                                have c1388 : I1381 a0 13 = v1377 := (f1383 _ _ (fun q => by have z := ta0; rw [q.1, ta66] at z; exact absurd z (by decide))).trans c1378
                                have c1389 : I1381 a0 14 = v1379 := (f1383 _ _ (fun q => by have z := ta0; rw [q.1, ta66] at z; exact absurd z (by decide))).trans c1380
                                have hO1390 : FrO 14 a1 T I0 I1381 := hO578.put f1383 ta66 (Or.inl (by decide))
                                refine q_iincE dX12_readAlp_79 rfl (by decide) (by decide) (by intros; omega) ?_
                                intro v1391 h1392
                                refine tr_goto 48 dX12_readAlp_82 (by decide) ?_
                                refine tr_iload_n dX12_readAlp_48 rfl ?_
                                refine q_iconst dX12_readAlp_49 (by decide) ?_
                                intro v1393 h1394
                                refine q_icmp_ge 85 dX12_readAlp_50 (by decide) (fun h1395 => ?_) (fun h1395 => ?_)
                                · skip
                                  exfalso; omega
                                · skip
                                  refine tr_iload_n dX12_readAlp_53 rfl ?_
                                  refine q_if_le 63 dX12_readAlp_54 (by decide) (fun h1396 => ?_) (fun h1396 => ?_)
                                  · skip
                                    exfalso; omega
                                  · skip
                                    refine tr_aload_n dX12_readAlp_57 rfl ?_
                                    refine q_bipush dX12_readAlp_58 (by decide +kernel) ?_
                                    intro v1397 h1398
                                    refine q_callVv hE (M' := mX12_needsSign) (as := [_]) dX12_readAlp_60 lk12_257 inX12_needsSign seX12_needsSign myX12_needsSign (by decide) ⟨by decide, by decide⟩ rfl (kR15 hS1382.1 ta0) (Nat.le_of_ble_eq_true rfl) rfl rfl (by decide) (by decide) (k_X12_needsSign hS1382.1 ta0) ?_
                                    rintro cn' K' N' I1399 R1400 L1401 ⟨rfl, rfl, rfl, rfl, g1402, w1404, -⟩
                                    have hS1405 := hS1382.tr g1402 (by decide +kernel) (by decide +kernel)
                                    have c1406 : I1399 a1 0 = v29 := (g1402.cell ta1 (by decide +kernel)).trans c1385
                                    have c1407 : I1399 a1 1 = v33 := (g1402.cell ta1 (by decide +kernel)).trans c1386
                                    have hO1408 : FrO 14 a1 T I0 I1399 := hO1390.st g1402 (by decide +kernel)
                                    have ov1409 := w1404.over (by rw [c1387]; omega)
                                    obtain ⟨v1410, c1411⟩ : ∃ v, I1399 a0 9 = v := ⟨_, rfl⟩
                                    have b1412 := iv15_9 hS1405.1 ta0 c1411
                                    obtain ⟨v1413, c1414⟩ : ∃ v, I1399 a0 13 = v := ⟨_, rfl⟩
                                    obtain ⟨v1415, c1416⟩ : ∃ v, I1399 a0 14 = v := ⟨_, rfl⟩
                                    (try rw [c1411] at ov1409)
                                    (try rw [c1414] at ov1409)
                                    (try rw [c1416] at ov1409)
                                    (try rw [c1387] at ov1409)
                                    (try rw [c1388] at ov1409)
                                    (try rw [c1389] at ov1409)
                                    refine tr_aload_n dX12_readAlp_63 rfl ?_
                                    refine tr_getR dX12_readAlp_64 fl12_188 (kR15 hS1405.1 ta0) d2 ?_
                                    refine tr_getR dX12_readAlp_67 fl12_260 (kR14 hS1405.1 ta1) d67 ?_
                                    refine tr_iload_n dX12_readAlp_70 rfl ?_
                                    refine tr_aload_n dX12_readAlp_71 rfl ?_
                                    refine q_iconst dX12_readAlp_72 (by decide) ?_
                                    intro v1417 h1418
                                    refine q_bipush dX12_readAlp_73 (by decide +kernel) ?_
                                    intro v1419 h1420
                                    refine q_callVi hE (M' := mX12_readWhole) (as := [_, _]) dX12_readAlp_75 lk12_161 inX12_readWhole seX12_readWhole myX12_readWhole (by decide) ⟨by decide, by decide⟩ rfl (kR15 hS1405.1 ta0) (Nat.le_of_ble_eq_true rfl) rfl rfl (by decide) (by decide) (k_X12_readWhole hS1405.1 ta0) ?_
                                    rintro v1425 cn' K' N' I1421 R1422 L1423 ⟨rfl, rfl, rfl, rfl, g1424, p1426, w1427, -⟩
                                    have hS1428 := hS1405.tr g1424 (by decide +kernel) (by decide +kernel)
                                    have c1429 : I1421 a1 0 = v29 := (g1424.cell ta1 (by decide +kernel)).trans c1406
                                    have c1430 : I1421 a1 1 = v33 := (g1424.cell ta1 (by decide +kernel)).trans c1407
                                    have b1431 : 0 ≤ v1425.toInt ∧ v1425.toInt ≤ 99 := by omega
                                    clear p1426
                                    have hO1432 : FrO 14 a1 T I0 I1421 := hO1408.st g1424 (by decide +kernel)
                                    have ov1433 := w1427.over (by rw [c1411]; omega)
                                    obtain ⟨v1434, c1435⟩ : ∃ v, I1421 a0 9 = v := ⟨_, rfl⟩
                                    have b1436 := iv15_9 hS1428.1 ta0 c1435
                                    obtain ⟨v1437, c1438⟩ : ∃ v, I1421 a0 13 = v := ⟨_, rfl⟩
                                    obtain ⟨v1439, c1440⟩ : ∃ v, I1421 a0 14 = v := ⟨_, rfl⟩
                                    (try rw [c1435] at ov1433)
                                    (try rw [c1438] at ov1433)
                                    (try rw [c1440] at ov1433)
                                    (try rw [c1411] at ov1433)
                                    (try rw [c1414] at ov1433)
                                    (try rw [c1416] at ov1433)
                                    refine q_iast dX12_readAlp_78 (kR53 hS1428.1 ta66) (ti_in (nR53 hS1428.1 ta66) (by omega) (by omega)) hS1428 ta66 (iokF rfl) rfl (by rfl) ?_
                                    intro I1441 hS1442 e1444 f1443
                                    have c1445 : I1441 a1 0 = v29 := (f1443 _ _ (fun q => by have z := ta1; rw [q.1, ta66] at z; exact absurd z (by decide))).trans c1429
                                    have c1446 : I1441 a1 1 = v33 := (f1443 _ _ (fun q => by have z := ta1; rw [q.1, ta66] at z; exact absurd z (by decide))).trans c1430
                                    have c1447 : I1441 a0 9 = v1434 := (f1443 _ _ (fun q => by have z := ta0; rw [q.1, ta66] at z; exact absurd z (by decide))).trans c1435
                                    have c1448 : I1441 a0 13 = v1437 := (f1443 _ _ (fun q => by have z := ta0; rw [q.1, ta66] at z; exact absurd z (by decide))).trans c1438
                                    have c1449 : I1441 a0 14 = v1439 := (f1443 _ _ (fun q => by have z := ta0; rw [q.1, ta66] at z; exact absurd z (by decide))).trans c1440
                                    have hO1450 : FrO 14 a1 T I0 I1441 := hO1432.put f1443 ta66 (Or.inl (by decide))
                                    refine q_iincE dX12_readAlp_79 rfl (by decide) (by decide) (by intros; omega) ?_
                                    intro v1451 h1452
                                    refine tr_goto 48 dX12_readAlp_82 (by decide) ?_
                                    refine tr_iload_n dX12_readAlp_48 rfl ?_
                                    refine q_iconst dX12_readAlp_49 (by decide) ?_
                                    intro v1453 h1454
                                    refine q_icmp_ge 85 dX12_readAlp_50 (by decide) (fun h1455 => ?_) (fun h1455 => ?_)
                                    · skip
                                      exfalso; omega
                                    · skip
                                      refine tr_iload_n dX12_readAlp_53 rfl ?_
                                      refine q_if_le 63 dX12_readAlp_54 (by decide) (fun h1456 => ?_) (fun h1456 => ?_)
                                      · skip
                                        exfalso; omega
                                      · skip
                                        refine tr_aload_n dX12_readAlp_57 rfl ?_
                                        refine q_bipush dX12_readAlp_58 (by decide +kernel) ?_
                                        intro v1457 h1458
                                        refine q_callVv hE (M' := mX12_needsSign) (as := [_]) dX12_readAlp_60 lk12_257 inX12_needsSign seX12_needsSign myX12_needsSign (by decide) ⟨by decide, by decide⟩ rfl (kR15 hS1442.1 ta0) (Nat.le_of_ble_eq_true rfl) rfl rfl (by decide) (by decide) (k_X12_needsSign hS1442.1 ta0) ?_
                                        rintro cn' K' N' I1459 R1460 L1461 ⟨rfl, rfl, rfl, rfl, g1462, w1464, -⟩
                                        have hS1465 := hS1442.tr g1462 (by decide +kernel) (by decide +kernel)
                                        have c1466 : I1459 a1 0 = v29 := (g1462.cell ta1 (by decide +kernel)).trans c1445
                                        have c1467 : I1459 a1 1 = v33 := (g1462.cell ta1 (by decide +kernel)).trans c1446
                                        have hO1468 : FrO 14 a1 T I0 I1459 := hO1450.st g1462 (by decide +kernel)
                                        have ov1469 := w1464.over (by rw [c1447]; omega)
                                        obtain ⟨v1470, c1471⟩ : ∃ v, I1459 a0 9 = v := ⟨_, rfl⟩
                                        have b1472 := iv15_9 hS1465.1 ta0 c1471
                                        obtain ⟨v1473, c1474⟩ : ∃ v, I1459 a0 13 = v := ⟨_, rfl⟩
                                        obtain ⟨v1475, c1476⟩ : ∃ v, I1459 a0 14 = v := ⟨_, rfl⟩
                                        (try rw [c1471] at ov1469)
                                        (try rw [c1474] at ov1469)
                                        (try rw [c1476] at ov1469)
                                        (try rw [c1447] at ov1469)
                                        (try rw [c1448] at ov1469)
                                        (try rw [c1449] at ov1469)
                                        refine tr_aload_n dX12_readAlp_63 rfl ?_
                                        refine tr_getR dX12_readAlp_64 fl12_188 (kR15 hS1465.1 ta0) d2 ?_
                                        refine tr_getR dX12_readAlp_67 fl12_260 (kR14 hS1465.1 ta1) d67 ?_
                                        refine tr_iload_n dX12_readAlp_70 rfl ?_
                                        refine tr_aload_n dX12_readAlp_71 rfl ?_
                                        refine q_iconst dX12_readAlp_72 (by decide) ?_
                                        intro v1477 h1478
                                        refine q_bipush dX12_readAlp_73 (by decide +kernel) ?_
                                        intro v1479 h1480
                                        refine q_callVi hE (M' := mX12_readWhole) (as := [_, _]) dX12_readAlp_75 lk12_161 inX12_readWhole seX12_readWhole myX12_readWhole (by decide) ⟨by decide, by decide⟩ rfl (kR15 hS1465.1 ta0) (Nat.le_of_ble_eq_true rfl) rfl rfl (by decide) (by decide) (k_X12_readWhole hS1465.1 ta0) ?_
                                        rintro v1485 cn' K' N' I1481 R1482 L1483 ⟨rfl, rfl, rfl, rfl, g1484, p1486, w1487, -⟩
                                        have hS1488 := hS1465.tr g1484 (by decide +kernel) (by decide +kernel)
                                        have c1489 : I1481 a1 0 = v29 := (g1484.cell ta1 (by decide +kernel)).trans c1466
                                        have c1490 : I1481 a1 1 = v33 := (g1484.cell ta1 (by decide +kernel)).trans c1467
                                        have b1491 : 0 ≤ v1485.toInt ∧ v1485.toInt ≤ 99 := by omega
                                        clear p1486
                                        have hO1492 : FrO 14 a1 T I0 I1481 := hO1468.st g1484 (by decide +kernel)
                                        have ov1493 := w1487.over (by rw [c1471]; omega)
                                        obtain ⟨v1494, c1495⟩ : ∃ v, I1481 a0 9 = v := ⟨_, rfl⟩
                                        have b1496 := iv15_9 hS1488.1 ta0 c1495
                                        obtain ⟨v1497, c1498⟩ : ∃ v, I1481 a0 13 = v := ⟨_, rfl⟩
                                        obtain ⟨v1499, c1500⟩ : ∃ v, I1481 a0 14 = v := ⟨_, rfl⟩
                                        (try rw [c1495] at ov1493)
                                        (try rw [c1498] at ov1493)
                                        (try rw [c1500] at ov1493)
                                        (try rw [c1471] at ov1493)
                                        (try rw [c1474] at ov1493)
                                        (try rw [c1476] at ov1493)
                                        refine q_iast dX12_readAlp_78 (kR53 hS1488.1 ta66) (ti_in (nR53 hS1488.1 ta66) (by omega) (by omega)) hS1488 ta66 (iokF rfl) rfl (by rfl) ?_
                                        intro I1501 hS1502 e1504 f1503
                                        have c1505 : I1501 a1 0 = v29 := (f1503 _ _ (fun q => by have z := ta1; rw [q.1, ta66] at z; exact absurd z (by decide))).trans c1489
                                        have c1506 : I1501 a1 1 = v33 := (f1503 _ _ (fun q => by have z := ta1; rw [q.1, ta66] at z; exact absurd z (by decide))).trans c1490
                                        have c1507 : I1501 a0 9 = v1494 := (f1503 _ _ (fun q => by have z := ta0; rw [q.1, ta66] at z; exact absurd z (by decide))).trans c1495
                                        have c1508 : I1501 a0 13 = v1497 := (f1503 _ _ (fun q => by have z := ta0; rw [q.1, ta66] at z; exact absurd z (by decide))).trans c1498
                                        have c1509 : I1501 a0 14 = v1499 := (f1503 _ _ (fun q => by have z := ta0; rw [q.1, ta66] at z; exact absurd z (by decide))).trans c1500
                                        have hO1510 : FrO 14 a1 T I0 I1501 := hO1492.put f1503 ta66 (Or.inl (by decide))
                                        refine q_iincE dX12_readAlp_79 rfl (by decide) (by decide) (by intros; omega) ?_
                                        intro v1511 h1512
                                        refine tr_goto 48 dX12_readAlp_82 (by decide) ?_
                                        refine tr_iload_n dX12_readAlp_48 rfl ?_
                                        refine q_iconst dX12_readAlp_49 (by decide) ?_
                                        intro v1513 h1514
                                        refine q_icmp_ge 85 dX12_readAlp_50 (by decide) (fun h1515 => ?_) (fun h1515 => ?_)
                                        · skip
                                          refine tr_aload_n dX12_readAlp_85 rfl ?_
                                          refine q_getI dX12_readAlp_86 fl12_99 (kR15 hS1502.1 ta0) c1507 ?_
                                          refine q_iconst dX12_readAlp_89 (by decide) ?_
                                          intro v1516 h1517
                                          refine q_icmp_ne 94 dX12_readAlp_90 (by decide) (fun h1518 => ?_) (fun h1518 => ?_)
                                          · skip
                                            exfalso; omega
                                          · skip
                                            have eF := hF.eq
                                            have eP := hP.eq
                                            obtain ⟨v1519, c1520⟩ : ∃ v, I1501 a0 10 = v := ⟨_, rfl⟩
                                            have b1521 := iv15_10 hS1502.1 ta0 c1520
                                            obtain ⟨v1522, c1523⟩ : ∃ v, I1501 a0 11 = v := ⟨_, rfl⟩
                                            obtain ⟨y1524, c1525⟩ : ∃ v, L1483 a0 15 = v := ⟨_, rfl⟩
                                            obtain ⟨v1526, c1527⟩ : ∃ v, I1501 a0 12 = v := ⟨_, rfl⟩
                                            obtain ⟨v1528, c1529⟩ : ∃ v, I1501 a0 8 = v := ⟨_, rfl⟩
                                            have b1530 := iv15_8 hS1502.1 ta0 c1529
                                            exact tr_vret hZ dX12_readAlp_93 rfl (by decide) (by decide) ⟨rfl, rfl, rfl, rfl, rfl, hS1502, (fun b hb => (Option.some.inj (d2.symm.trans hb)) ▸ (((((((((((((((((((FrM.rf (R := R0) (b := a1) (T := T)).st g74 (by decide +kernel)).st g126 (by decide +kernel)).st g196 (by decide +kernel)).st g262 (by decide +kernel)).st g318 (by decide +kernel)).pu f372 (by decide) (by decide) d67).st g395 (by decide +kernel)).st g444 (by decide +kernel)).pu f498 (by decide) (by decide) d67).st g521 (by decide +kernel)).st g570 (by decide +kernel)).pu f1383 (by decide) (by decide) d67).st g1402 (by decide +kernel)).st g1424 (by decide +kernel)).pu f1443 (by decide) (by decide) d67).st g1462 (by decide +kernel)).st g1484 (by decide +kernel)).pu f1503 (by decide) (by decide) d67)), (fun dr hd => (Option.some.inj (d2.symm.trans hd)) ▸ hO1510), (Or.inr (⟨(by (try rw [w109]); first | done | with_reducible assumption | omega), (by (try rw [w109]); (try rw [c1507]); first | done | with_reducible assumption | omega), (by (try rw [w109]); (try rw [c1508]); first | done | with_reducible assumption | omega), (by (try rw [w109]); (try rw [c1509]); first | done | with_reducible assumption | omega), trivial⟩)), trivial⟩
                                        · skip
                                          exfalso; omega
                              · skip
                                obtain ⟨v1531, c1532⟩ : ∃ v, I567 a0 9 = v := ⟨_, rfl⟩
                                have b1533 := iv15_9 hS575.1 ta0 c1532
                                rw [c1532] at p600
                                obtain ⟨v1534, c1535⟩ : ∃ v, I567 a0 13 = v := ⟨_, rfl⟩
                                rw [c1535] at p601
                                obtain ⟨v1536, c1537⟩ : ∃ v, I567 a0 14 = v := ⟨_, rfl⟩
                                rw [c1537] at p602
                                replace hF := hF.neg (by omega)
                                replace hP := hP.neg (by omega)
                                replace hF := hF.pos (by omega)
                                replace hP := hP.pos (by omega)
                                refine q_iast dX12_readAlp_78 (kR53 hS575.1 ta66) (ti_in (nR53 hS575.1 ta66) (by omega) (by omega)) hS575 ta66 (iokF rfl) rfl (by rfl) ?_
                                intro I1538 hS1539 e1541 f1540
                                have c1542 : I1538 a1 0 = v29 := (f1540 _ _ (fun q => by have z := ta1; rw [q.1, ta66] at z; exact absurd z (by decide))).trans c576
                                have c1543 : I1538 a1 1 = v33 := (f1540 _ _ (fun q => by have z := ta1; rw [q.1, ta66] at z; exact absurd z (by decide))).trans c577
                                have c1544 : I1538 a0 9 = v1531 := (f1540 _ _ (fun q => by have z := ta0; rw [q.1, ta66] at z; exact absurd z (by decide))).trans c1532
                                have c1545 : I1538 a0 13 = v1534 := (f1540 _ _ (fun q => by have z := ta0; rw [q.1, ta66] at z; exact absurd z (by decide))).trans c1535
                                have c1546 : I1538 a0 14 = v1536 := (f1540 _ _ (fun q => by have z := ta0; rw [q.1, ta66] at z; exact absurd z (by decide))).trans c1537
                                have hO1547 : FrO 14 a1 T I0 I1538 := hO578.put f1540 ta66 (Or.inl (by decide))
                                refine q_iincE dX12_readAlp_79 rfl (by decide) (by decide) (by intros; omega) ?_
                                intro v1548 h1549
                                refine tr_goto 48 dX12_readAlp_82 (by decide) ?_
                                refine tr_iload_n dX12_readAlp_48 rfl ?_
                                refine q_iconst dX12_readAlp_49 (by decide) ?_
                                intro v1550 h1551
                                refine q_icmp_ge 85 dX12_readAlp_50 (by decide) (fun h1552 => ?_) (fun h1552 => ?_)
                                · skip
                                  exfalso; omega
                                · skip
                                  refine tr_iload_n dX12_readAlp_53 rfl ?_
                                  refine q_if_le 63 dX12_readAlp_54 (by decide) (fun h1553 => ?_) (fun h1553 => ?_)
                                  · skip
                                    exfalso; omega
                                  · skip
                                    refine tr_aload_n dX12_readAlp_57 rfl ?_
                                    refine q_bipush dX12_readAlp_58 (by decide +kernel) ?_
                                    intro v1554 h1555
                                    refine q_callVv hE (M' := mX12_needsSign) (as := [_]) dX12_readAlp_60 lk12_257 inX12_needsSign seX12_needsSign myX12_needsSign (by decide) ⟨by decide, by decide⟩ rfl (kR15 hS1539.1 ta0) (Nat.le_of_ble_eq_true rfl) rfl rfl (by decide) (by decide) (k_X12_needsSign hS1539.1 ta0) ?_
                                    rintro cn' K' N' I1556 R1557 L1558 ⟨rfl, rfl, rfl, rfl, g1559, w1561, -⟩
                                    have hS1562 := hS1539.tr g1559 (by decide +kernel) (by decide +kernel)
                                    have c1563 : I1556 a1 0 = v29 := (g1559.cell ta1 (by decide +kernel)).trans c1542
                                    have c1564 : I1556 a1 1 = v33 := (g1559.cell ta1 (by decide +kernel)).trans c1543
                                    have hO1565 : FrO 14 a1 T I0 I1556 := hO1547.st g1559 (by decide +kernel)
                                    have ov1566 := w1561.over (by rw [c1544]; omega)
                                    obtain ⟨v1567, c1568⟩ : ∃ v, I1556 a0 9 = v := ⟨_, rfl⟩
                                    have b1569 := iv15_9 hS1562.1 ta0 c1568
                                    obtain ⟨v1570, c1571⟩ : ∃ v, I1556 a0 13 = v := ⟨_, rfl⟩
                                    obtain ⟨v1572, c1573⟩ : ∃ v, I1556 a0 14 = v := ⟨_, rfl⟩
                                    (try rw [c1568] at ov1566)
                                    (try rw [c1571] at ov1566)
                                    (try rw [c1573] at ov1566)
                                    (try rw [c1544] at ov1566)
                                    (try rw [c1545] at ov1566)
                                    (try rw [c1546] at ov1566)
                                    refine tr_aload_n dX12_readAlp_63 rfl ?_
                                    refine tr_getR dX12_readAlp_64 fl12_188 (kR15 hS1562.1 ta0) d2 ?_
                                    refine tr_getR dX12_readAlp_67 fl12_260 (kR14 hS1562.1 ta1) d67 ?_
                                    refine tr_iload_n dX12_readAlp_70 rfl ?_
                                    refine tr_aload_n dX12_readAlp_71 rfl ?_
                                    refine q_iconst dX12_readAlp_72 (by decide) ?_
                                    intro v1574 h1575
                                    refine q_bipush dX12_readAlp_73 (by decide +kernel) ?_
                                    intro v1576 h1577
                                    refine q_callVi hE (M' := mX12_readWhole) (as := [_, _]) dX12_readAlp_75 lk12_161 inX12_readWhole seX12_readWhole myX12_readWhole (by decide) ⟨by decide, by decide⟩ rfl (kR15 hS1562.1 ta0) (Nat.le_of_ble_eq_true rfl) rfl rfl (by decide) (by decide) (k_X12_readWhole hS1562.1 ta0) ?_
                                    rintro v1582 cn' K' N' I1578 R1579 L1580 ⟨rfl, rfl, rfl, rfl, g1581, p1583, w1584, -⟩
                                    have hS1585 := hS1562.tr g1581 (by decide +kernel) (by decide +kernel)
                                    have c1586 : I1578 a1 0 = v29 := (g1581.cell ta1 (by decide +kernel)).trans c1563
                                    have c1587 : I1578 a1 1 = v33 := (g1581.cell ta1 (by decide +kernel)).trans c1564
                                    have b1588 : 0 ≤ v1582.toInt ∧ v1582.toInt ≤ 99 := by omega
                                    clear p1583
                                    have hO1589 : FrO 14 a1 T I0 I1578 := hO1565.st g1581 (by decide +kernel)
                                    have ov1590 := w1584.over (by rw [c1568]; omega)
                                    obtain ⟨v1591, c1592⟩ : ∃ v, I1578 a0 9 = v := ⟨_, rfl⟩
                                    have b1593 := iv15_9 hS1585.1 ta0 c1592
                                    obtain ⟨v1594, c1595⟩ : ∃ v, I1578 a0 13 = v := ⟨_, rfl⟩
                                    obtain ⟨v1596, c1597⟩ : ∃ v, I1578 a0 14 = v := ⟨_, rfl⟩
                                    (try rw [c1592] at ov1590)
                                    (try rw [c1595] at ov1590)
                                    (try rw [c1597] at ov1590)
                                    (try rw [c1568] at ov1590)
                                    (try rw [c1571] at ov1590)
                                    (try rw [c1573] at ov1590)
                                    refine q_iast dX12_readAlp_78 (kR53 hS1585.1 ta66) (ti_in (nR53 hS1585.1 ta66) (by omega) (by omega)) hS1585 ta66 (iokF rfl) rfl (by rfl) ?_
                                    intro I1598 hS1599 e1601 f1600
                                    have c1602 : I1598 a1 0 = v29 := (f1600 _ _ (fun q => by have z := ta1; rw [q.1, ta66] at z; exact absurd z (by decide))).trans c1586
                                    have c1603 : I1598 a1 1 = v33 := (f1600 _ _ (fun q => by have z := ta1; rw [q.1, ta66] at z; exact absurd z (by decide))).trans c1587
                                    have c1604 : I1598 a0 9 = v1591 := (f1600 _ _ (fun q => by have z := ta0; rw [q.1, ta66] at z; exact absurd z (by decide))).trans c1592
                                    have c1605 : I1598 a0 13 = v1594 := (f1600 _ _ (fun q => by have z := ta0; rw [q.1, ta66] at z; exact absurd z (by decide))).trans c1595
                                    have c1606 : I1598 a0 14 = v1596 := (f1600 _ _ (fun q => by have z := ta0; rw [q.1, ta66] at z; exact absurd z (by decide))).trans c1597
                                    have hO1607 : FrO 14 a1 T I0 I1598 := hO1589.put f1600 ta66 (Or.inl (by decide))
                                    refine q_iincE dX12_readAlp_79 rfl (by decide) (by decide) (by intros; omega) ?_
                                    intro v1608 h1609
                                    refine tr_goto 48 dX12_readAlp_82 (by decide) ?_
                                    refine tr_iload_n dX12_readAlp_48 rfl ?_
                                    refine q_iconst dX12_readAlp_49 (by decide) ?_
                                    intro v1610 h1611
                                    refine q_icmp_ge 85 dX12_readAlp_50 (by decide) (fun h1612 => ?_) (fun h1612 => ?_)
                                    · skip
                                      exfalso; omega
                                    · skip
                                      refine tr_iload_n dX12_readAlp_53 rfl ?_
                                      refine q_if_le 63 dX12_readAlp_54 (by decide) (fun h1613 => ?_) (fun h1613 => ?_)
                                      · skip
                                        exfalso; omega
                                      · skip
                                        refine tr_aload_n dX12_readAlp_57 rfl ?_
                                        refine q_bipush dX12_readAlp_58 (by decide +kernel) ?_
                                        intro v1614 h1615
                                        refine q_callVv hE (M' := mX12_needsSign) (as := [_]) dX12_readAlp_60 lk12_257 inX12_needsSign seX12_needsSign myX12_needsSign (by decide) ⟨by decide, by decide⟩ rfl (kR15 hS1599.1 ta0) (Nat.le_of_ble_eq_true rfl) rfl rfl (by decide) (by decide) (k_X12_needsSign hS1599.1 ta0) ?_
                                        rintro cn' K' N' I1616 R1617 L1618 ⟨rfl, rfl, rfl, rfl, g1619, w1621, -⟩
                                        have hS1622 := hS1599.tr g1619 (by decide +kernel) (by decide +kernel)
                                        have c1623 : I1616 a1 0 = v29 := (g1619.cell ta1 (by decide +kernel)).trans c1602
                                        have c1624 : I1616 a1 1 = v33 := (g1619.cell ta1 (by decide +kernel)).trans c1603
                                        have hO1625 : FrO 14 a1 T I0 I1616 := hO1607.st g1619 (by decide +kernel)
                                        have ov1626 := w1621.over (by rw [c1604]; omega)
                                        obtain ⟨v1627, c1628⟩ : ∃ v, I1616 a0 9 = v := ⟨_, rfl⟩
                                        have b1629 := iv15_9 hS1622.1 ta0 c1628
                                        obtain ⟨v1630, c1631⟩ : ∃ v, I1616 a0 13 = v := ⟨_, rfl⟩
                                        obtain ⟨v1632, c1633⟩ : ∃ v, I1616 a0 14 = v := ⟨_, rfl⟩
                                        (try rw [c1628] at ov1626)
                                        (try rw [c1631] at ov1626)
                                        (try rw [c1633] at ov1626)
                                        (try rw [c1604] at ov1626)
                                        (try rw [c1605] at ov1626)
                                        (try rw [c1606] at ov1626)
                                        refine tr_aload_n dX12_readAlp_63 rfl ?_
                                        refine tr_getR dX12_readAlp_64 fl12_188 (kR15 hS1622.1 ta0) d2 ?_
                                        refine tr_getR dX12_readAlp_67 fl12_260 (kR14 hS1622.1 ta1) d67 ?_
                                        refine tr_iload_n dX12_readAlp_70 rfl ?_
                                        refine tr_aload_n dX12_readAlp_71 rfl ?_
                                        refine q_iconst dX12_readAlp_72 (by decide) ?_
                                        intro v1634 h1635
                                        refine q_bipush dX12_readAlp_73 (by decide +kernel) ?_
                                        intro v1636 h1637
                                        refine q_callVi hE (M' := mX12_readWhole) (as := [_, _]) dX12_readAlp_75 lk12_161 inX12_readWhole seX12_readWhole myX12_readWhole (by decide) ⟨by decide, by decide⟩ rfl (kR15 hS1622.1 ta0) (Nat.le_of_ble_eq_true rfl) rfl rfl (by decide) (by decide) (k_X12_readWhole hS1622.1 ta0) ?_
                                        rintro v1642 cn' K' N' I1638 R1639 L1640 ⟨rfl, rfl, rfl, rfl, g1641, p1643, w1644, -⟩
                                        have hS1645 := hS1622.tr g1641 (by decide +kernel) (by decide +kernel)
                                        have c1646 : I1638 a1 0 = v29 := (g1641.cell ta1 (by decide +kernel)).trans c1623
                                        have c1647 : I1638 a1 1 = v33 := (g1641.cell ta1 (by decide +kernel)).trans c1624
                                        have b1648 : 0 ≤ v1642.toInt ∧ v1642.toInt ≤ 99 := by omega
                                        clear p1643
                                        have hO1649 : FrO 14 a1 T I0 I1638 := hO1625.st g1641 (by decide +kernel)
                                        have ov1650 := w1644.over (by rw [c1628]; omega)
                                        obtain ⟨v1651, c1652⟩ : ∃ v, I1638 a0 9 = v := ⟨_, rfl⟩
                                        have b1653 := iv15_9 hS1645.1 ta0 c1652
                                        obtain ⟨v1654, c1655⟩ : ∃ v, I1638 a0 13 = v := ⟨_, rfl⟩
                                        obtain ⟨v1656, c1657⟩ : ∃ v, I1638 a0 14 = v := ⟨_, rfl⟩
                                        (try rw [c1652] at ov1650)
                                        (try rw [c1655] at ov1650)
                                        (try rw [c1657] at ov1650)
                                        (try rw [c1628] at ov1650)
                                        (try rw [c1631] at ov1650)
                                        (try rw [c1633] at ov1650)
                                        refine q_iast dX12_readAlp_78 (kR53 hS1645.1 ta66) (ti_in (nR53 hS1645.1 ta66) (by omega) (by omega)) hS1645 ta66 (iokF rfl) rfl (by rfl) ?_
                                        intro I1658 hS1659 e1661 f1660
                                        have c1662 : I1658 a1 0 = v29 := (f1660 _ _ (fun q => by have z := ta1; rw [q.1, ta66] at z; exact absurd z (by decide))).trans c1646
                                        have c1663 : I1658 a1 1 = v33 := (f1660 _ _ (fun q => by have z := ta1; rw [q.1, ta66] at z; exact absurd z (by decide))).trans c1647
                                        have c1664 : I1658 a0 9 = v1651 := (f1660 _ _ (fun q => by have z := ta0; rw [q.1, ta66] at z; exact absurd z (by decide))).trans c1652
                                        have c1665 : I1658 a0 13 = v1654 := (f1660 _ _ (fun q => by have z := ta0; rw [q.1, ta66] at z; exact absurd z (by decide))).trans c1655
                                        have c1666 : I1658 a0 14 = v1656 := (f1660 _ _ (fun q => by have z := ta0; rw [q.1, ta66] at z; exact absurd z (by decide))).trans c1657
                                        have hO1667 : FrO 14 a1 T I0 I1658 := hO1649.put f1660 ta66 (Or.inl (by decide))
                                        refine q_iincE dX12_readAlp_79 rfl (by decide) (by decide) (by intros; omega) ?_
                                        intro v1668 h1669
                                        refine tr_goto 48 dX12_readAlp_82 (by decide) ?_
                                        refine tr_iload_n dX12_readAlp_48 rfl ?_
                                        refine q_iconst dX12_readAlp_49 (by decide) ?_
                                        intro v1670 h1671
                                        refine q_icmp_ge 85 dX12_readAlp_50 (by decide) (fun h1672 => ?_) (fun h1672 => ?_)
                                        · skip
                                          refine tr_aload_n dX12_readAlp_85 rfl ?_
                                          refine q_getI dX12_readAlp_86 fl12_99 (kR15 hS1659.1 ta0) c1664 ?_
                                          refine q_iconst dX12_readAlp_89 (by decide) ?_
                                          intro v1673 h1674
                                          refine q_icmp_ne 94 dX12_readAlp_90 (by decide) (fun h1675 => ?_) (fun h1675 => ?_)
                                          · skip
                                            exfalso; omega
                                          · skip
                                            have eF := hF.eq
                                            have eP := hP.eq
                                            obtain ⟨v1676, c1677⟩ : ∃ v, I1658 a0 10 = v := ⟨_, rfl⟩
                                            have b1678 := iv15_10 hS1659.1 ta0 c1677
                                            obtain ⟨v1679, c1680⟩ : ∃ v, I1658 a0 11 = v := ⟨_, rfl⟩
                                            obtain ⟨y1681, c1682⟩ : ∃ v, L1640 a0 15 = v := ⟨_, rfl⟩
                                            obtain ⟨v1683, c1684⟩ : ∃ v, I1658 a0 12 = v := ⟨_, rfl⟩
                                            obtain ⟨v1685, c1686⟩ : ∃ v, I1658 a0 8 = v := ⟨_, rfl⟩
                                            have b1687 := iv15_8 hS1659.1 ta0 c1686
                                            exact tr_vret hZ dX12_readAlp_93 rfl (by decide) (by decide) ⟨rfl, rfl, rfl, rfl, rfl, hS1659, (fun b hb => (Option.some.inj (d2.symm.trans hb)) ▸ (((((((((((((((((((FrM.rf (R := R0) (b := a1) (T := T)).st g74 (by decide +kernel)).st g126 (by decide +kernel)).st g196 (by decide +kernel)).st g262 (by decide +kernel)).st g318 (by decide +kernel)).pu f372 (by decide) (by decide) d67).st g395 (by decide +kernel)).st g444 (by decide +kernel)).pu f498 (by decide) (by decide) d67).st g521 (by decide +kernel)).st g570 (by decide +kernel)).pu f1540 (by decide) (by decide) d67).st g1559 (by decide +kernel)).st g1581 (by decide +kernel)).pu f1600 (by decide) (by decide) d67).st g1619 (by decide +kernel)).st g1641 (by decide +kernel)).pu f1660 (by decide) (by decide) d67)), (fun dr hd => (Option.some.inj (d2.symm.trans hd)) ▸ hO1667), (Or.inr (⟨(by (try rw [w109]); first | done | with_reducible assumption | omega), (by (try rw [w109]); (try rw [c1664]); first | done | with_reducible assumption | omega), (by (try rw [w109]); (try rw [c1665]); first | done | with_reducible assumption | omega), (by (try rw [w109]); (try rw [c1666]); first | done | with_reducible assumption | omega), trivial⟩)), trivial⟩
                                        · skip
                                          exfalso; omega
                            · skip
                              obtain ⟨v1688, c1689⟩ : ∃ v, I518 a0 9 = v := ⟨_, rfl⟩
                              have b1690 := iv15_9 hS526.1 ta0 c1689
                              rw [c1689] at p541
                              obtain ⟨v1691, c1692⟩ : ∃ v, I518 a0 13 = v := ⟨_, rfl⟩
                              rw [c1692] at p542
                              obtain ⟨v1693, c1694⟩ : ∃ v, I518 a0 14 = v := ⟨_, rfl⟩
                              rw [c1694] at p543
                              replace hF := hF.pos (by omega)
                              replace hP := hP.pos (by omega)
                              refine tr_aload_n dX12_readAlp_63 rfl ?_
                              refine tr_getR dX12_readAlp_64 fl12_188 (kR15 hS526.1 ta0) d2 ?_
                              refine tr_getR dX12_readAlp_67 fl12_260 (kR14 hS526.1 ta1) d67 ?_
                              refine tr_iload_n dX12_readAlp_70 rfl ?_
                              refine tr_aload_n dX12_readAlp_71 rfl ?_
                              refine q_iconst dX12_readAlp_72 (by decide) ?_
                              intro v1695 h1696
                              refine q_bipush dX12_readAlp_73 (by decide +kernel) ?_
                              intro v1697 h1698
                              refine q_callVi hE (M' := mX12_readWhole) (as := [_, _]) dX12_readAlp_75 lk12_161 inX12_readWhole seX12_readWhole myX12_readWhole (by decide) ⟨by decide, by decide⟩ rfl (kR15 hS526.1 ta0) (Nat.le_of_ble_eq_true rfl) rfl rfl (by decide) (by decide) (k_X12_readWhole hS526.1 ta0) ?_
                              rintro v1703 cn' K' N' I1699 R1700 L1701 ⟨rfl, rfl, rfl, rfl, g1702, p1704, w1705, -⟩
                              have hS1706 := hS526.tr g1702 (by decide +kernel) (by decide +kernel)
                              have c1707 : I1699 a1 0 = v29 := (g1702.cell ta1 (by decide +kernel)).trans c527
                              have c1708 : I1699 a1 1 = v33 := (g1702.cell ta1 (by decide +kernel)).trans c528
                              have b1709 : 0 ≤ v1703.toInt ∧ v1703.toInt ≤ 99 := by omega
                              clear p1704
                              have hO1710 : FrO 14 a1 T I0 I1699 := hO529.st g1702 (by decide +kernel)
                              have ov1711 := w1705.over (by rw [c1689]; omega)
                              obtain ⟨v1712, c1713⟩ : ∃ v, I1699 a0 9 = v := ⟨_, rfl⟩
                              have b1714 := iv15_9 hS1706.1 ta0 c1713
                              obtain ⟨v1715, c1716⟩ : ∃ v, I1699 a0 13 = v := ⟨_, rfl⟩
                              obtain ⟨v1717, c1718⟩ : ∃ v, I1699 a0 14 = v := ⟨_, rfl⟩
                              (try rw [c1713] at ov1711)
                              (try rw [c1716] at ov1711)
                              (try rw [c1718] at ov1711)
                              (try rw [c1689] at ov1711)
                              (try rw [c1692] at ov1711)
                              (try rw [c1694] at ov1711)
                              refine q_iast dX12_readAlp_78 (kR53 hS1706.1 ta66) (ti_in (nR53 hS1706.1 ta66) (by omega) (by omega)) hS1706 ta66 (iokF rfl) rfl (by rfl) ?_
                              intro I1719 hS1720 e1722 f1721
                              have c1723 : I1719 a1 0 = v29 := (f1721 _ _ (fun q => by have z := ta1; rw [q.1, ta66] at z; exact absurd z (by decide))).trans c1707
                              have c1724 : I1719 a1 1 = v33 := (f1721 _ _ (fun q => by have z := ta1; rw [q.1, ta66] at z; exact absurd z (by decide))).trans c1708
                              have c1725 : I1719 a0 9 = v1712 := (f1721 _ _ (fun q => by have z := ta0; rw [q.1, ta66] at z; exact absurd z (by decide))).trans c1713
                              have c1726 : I1719 a0 13 = v1715 := (f1721 _ _ (fun q => by have z := ta0; rw [q.1, ta66] at z; exact absurd z (by decide))).trans c1716
                              have c1727 : I1719 a0 14 = v1717 := (f1721 _ _ (fun q => by have z := ta0; rw [q.1, ta66] at z; exact absurd z (by decide))).trans c1718
                              have hO1728 : FrO 14 a1 T I0 I1719 := hO1710.put f1721 ta66 (Or.inl (by decide))
                              refine q_iincE dX12_readAlp_79 rfl (by decide) (by decide) (by intros; omega) ?_
                              intro v1729 h1730
                              refine tr_goto 48 dX12_readAlp_82 (by decide) ?_
                              refine tr_iload_n dX12_readAlp_48 rfl ?_
                              refine q_iconst dX12_readAlp_49 (by decide) ?_
                              intro v1731 h1732
                              refine q_icmp_ge 85 dX12_readAlp_50 (by decide) (fun h1733 => ?_) (fun h1733 => ?_)
                              · skip
                                exfalso; omega
                              · skip
                                refine tr_iload_n dX12_readAlp_53 rfl ?_
                                refine q_if_le 63 dX12_readAlp_54 (by decide) (fun h1734 => ?_) (fun h1734 => ?_)
                                · skip
                                  exfalso; omega
                                · skip
                                  refine tr_aload_n dX12_readAlp_57 rfl ?_
                                  refine q_bipush dX12_readAlp_58 (by decide +kernel) ?_
                                  intro v1735 h1736
                                  refine q_callVv hE (M' := mX12_needsSign) (as := [_]) dX12_readAlp_60 lk12_257 inX12_needsSign seX12_needsSign myX12_needsSign (by decide) ⟨by decide, by decide⟩ rfl (kR15 hS1720.1 ta0) (Nat.le_of_ble_eq_true rfl) rfl rfl (by decide) (by decide) (k_X12_needsSign hS1720.1 ta0) ?_
                                  rintro cn' K' N' I1737 R1738 L1739 ⟨rfl, rfl, rfl, rfl, g1740, w1742, -⟩
                                  have hS1743 := hS1720.tr g1740 (by decide +kernel) (by decide +kernel)
                                  have c1744 : I1737 a1 0 = v29 := (g1740.cell ta1 (by decide +kernel)).trans c1723
                                  have c1745 : I1737 a1 1 = v33 := (g1740.cell ta1 (by decide +kernel)).trans c1724
                                  have hO1746 : FrO 14 a1 T I0 I1737 := hO1728.st g1740 (by decide +kernel)
                                  have ov1747 := w1742.over (by rw [c1725]; omega)
                                  obtain ⟨v1748, c1749⟩ : ∃ v, I1737 a0 9 = v := ⟨_, rfl⟩
                                  have b1750 := iv15_9 hS1743.1 ta0 c1749
                                  obtain ⟨v1751, c1752⟩ : ∃ v, I1737 a0 13 = v := ⟨_, rfl⟩
                                  obtain ⟨v1753, c1754⟩ : ∃ v, I1737 a0 14 = v := ⟨_, rfl⟩
                                  (try rw [c1749] at ov1747)
                                  (try rw [c1752] at ov1747)
                                  (try rw [c1754] at ov1747)
                                  (try rw [c1725] at ov1747)
                                  (try rw [c1726] at ov1747)
                                  (try rw [c1727] at ov1747)
                                  refine tr_aload_n dX12_readAlp_63 rfl ?_
                                  refine tr_getR dX12_readAlp_64 fl12_188 (kR15 hS1743.1 ta0) d2 ?_
                                  refine tr_getR dX12_readAlp_67 fl12_260 (kR14 hS1743.1 ta1) d67 ?_
                                  refine tr_iload_n dX12_readAlp_70 rfl ?_
                                  refine tr_aload_n dX12_readAlp_71 rfl ?_
                                  refine q_iconst dX12_readAlp_72 (by decide) ?_
                                  intro v1755 h1756
                                  refine q_bipush dX12_readAlp_73 (by decide +kernel) ?_
                                  intro v1757 h1758
                                  refine q_callVi hE (M' := mX12_readWhole) (as := [_, _]) dX12_readAlp_75 lk12_161 inX12_readWhole seX12_readWhole myX12_readWhole (by decide) ⟨by decide, by decide⟩ rfl (kR15 hS1743.1 ta0) (Nat.le_of_ble_eq_true rfl) rfl rfl (by decide) (by decide) (k_X12_readWhole hS1743.1 ta0) ?_
                                  rintro v1763 cn' K' N' I1759 R1760 L1761 ⟨rfl, rfl, rfl, rfl, g1762, p1764, w1765, -⟩
                                  have hS1766 := hS1743.tr g1762 (by decide +kernel) (by decide +kernel)
                                  have c1767 : I1759 a1 0 = v29 := (g1762.cell ta1 (by decide +kernel)).trans c1744
                                  have c1768 : I1759 a1 1 = v33 := (g1762.cell ta1 (by decide +kernel)).trans c1745
                                  have b1769 : 0 ≤ v1763.toInt ∧ v1763.toInt ≤ 99 := by omega
                                  clear p1764
                                  have hO1770 : FrO 14 a1 T I0 I1759 := hO1746.st g1762 (by decide +kernel)
                                  have ov1771 := w1765.over (by rw [c1749]; omega)
                                  obtain ⟨v1772, c1773⟩ : ∃ v, I1759 a0 9 = v := ⟨_, rfl⟩
                                  have b1774 := iv15_9 hS1766.1 ta0 c1773
                                  obtain ⟨v1775, c1776⟩ : ∃ v, I1759 a0 13 = v := ⟨_, rfl⟩
                                  obtain ⟨v1777, c1778⟩ : ∃ v, I1759 a0 14 = v := ⟨_, rfl⟩
                                  (try rw [c1773] at ov1771)
                                  (try rw [c1776] at ov1771)
                                  (try rw [c1778] at ov1771)
                                  (try rw [c1749] at ov1771)
                                  (try rw [c1752] at ov1771)
                                  (try rw [c1754] at ov1771)
                                  refine q_iast dX12_readAlp_78 (kR53 hS1766.1 ta66) (ti_in (nR53 hS1766.1 ta66) (by omega) (by omega)) hS1766 ta66 (iokF rfl) rfl (by rfl) ?_
                                  intro I1779 hS1780 e1782 f1781
                                  have c1783 : I1779 a1 0 = v29 := (f1781 _ _ (fun q => by have z := ta1; rw [q.1, ta66] at z; exact absurd z (by decide))).trans c1767
                                  have c1784 : I1779 a1 1 = v33 := (f1781 _ _ (fun q => by have z := ta1; rw [q.1, ta66] at z; exact absurd z (by decide))).trans c1768
                                  have c1785 : I1779 a0 9 = v1772 := (f1781 _ _ (fun q => by have z := ta0; rw [q.1, ta66] at z; exact absurd z (by decide))).trans c1773
                                  have c1786 : I1779 a0 13 = v1775 := (f1781 _ _ (fun q => by have z := ta0; rw [q.1, ta66] at z; exact absurd z (by decide))).trans c1776
                                  have c1787 : I1779 a0 14 = v1777 := (f1781 _ _ (fun q => by have z := ta0; rw [q.1, ta66] at z; exact absurd z (by decide))).trans c1778
                                  have hO1788 : FrO 14 a1 T I0 I1779 := hO1770.put f1781 ta66 (Or.inl (by decide))
                                  refine q_iincE dX12_readAlp_79 rfl (by decide) (by decide) (by intros; omega) ?_
                                  intro v1789 h1790
                                  refine tr_goto 48 dX12_readAlp_82 (by decide) ?_
                                  refine tr_iload_n dX12_readAlp_48 rfl ?_
                                  refine q_iconst dX12_readAlp_49 (by decide) ?_
                                  intro v1791 h1792
                                  refine q_icmp_ge 85 dX12_readAlp_50 (by decide) (fun h1793 => ?_) (fun h1793 => ?_)
                                  · skip
                                    exfalso; omega
                                  · skip
                                    refine tr_iload_n dX12_readAlp_53 rfl ?_
                                    refine q_if_le 63 dX12_readAlp_54 (by decide) (fun h1794 => ?_) (fun h1794 => ?_)
                                    · skip
                                      exfalso; omega
                                    · skip
                                      refine tr_aload_n dX12_readAlp_57 rfl ?_
                                      refine q_bipush dX12_readAlp_58 (by decide +kernel) ?_
                                      intro v1795 h1796
                                      refine q_callVv hE (M' := mX12_needsSign) (as := [_]) dX12_readAlp_60 lk12_257 inX12_needsSign seX12_needsSign myX12_needsSign (by decide) ⟨by decide, by decide⟩ rfl (kR15 hS1780.1 ta0) (Nat.le_of_ble_eq_true rfl) rfl rfl (by decide) (by decide) (k_X12_needsSign hS1780.1 ta0) ?_
                                      rintro cn' K' N' I1797 R1798 L1799 ⟨rfl, rfl, rfl, rfl, g1800, w1802, -⟩
                                      have hS1803 := hS1780.tr g1800 (by decide +kernel) (by decide +kernel)
                                      have c1804 : I1797 a1 0 = v29 := (g1800.cell ta1 (by decide +kernel)).trans c1783
                                      have c1805 : I1797 a1 1 = v33 := (g1800.cell ta1 (by decide +kernel)).trans c1784
                                      have hO1806 : FrO 14 a1 T I0 I1797 := hO1788.st g1800 (by decide +kernel)
                                      have ov1807 := w1802.over (by rw [c1785]; omega)
                                      obtain ⟨v1808, c1809⟩ : ∃ v, I1797 a0 9 = v := ⟨_, rfl⟩
                                      have b1810 := iv15_9 hS1803.1 ta0 c1809
                                      obtain ⟨v1811, c1812⟩ : ∃ v, I1797 a0 13 = v := ⟨_, rfl⟩
                                      obtain ⟨v1813, c1814⟩ : ∃ v, I1797 a0 14 = v := ⟨_, rfl⟩
                                      (try rw [c1809] at ov1807)
                                      (try rw [c1812] at ov1807)
                                      (try rw [c1814] at ov1807)
                                      (try rw [c1785] at ov1807)
                                      (try rw [c1786] at ov1807)
                                      (try rw [c1787] at ov1807)
                                      refine tr_aload_n dX12_readAlp_63 rfl ?_
                                      refine tr_getR dX12_readAlp_64 fl12_188 (kR15 hS1803.1 ta0) d2 ?_
                                      refine tr_getR dX12_readAlp_67 fl12_260 (kR14 hS1803.1 ta1) d67 ?_
                                      refine tr_iload_n dX12_readAlp_70 rfl ?_
                                      refine tr_aload_n dX12_readAlp_71 rfl ?_
                                      refine q_iconst dX12_readAlp_72 (by decide) ?_
                                      intro v1815 h1816
                                      refine q_bipush dX12_readAlp_73 (by decide +kernel) ?_
                                      intro v1817 h1818
                                      refine q_callVi hE (M' := mX12_readWhole) (as := [_, _]) dX12_readAlp_75 lk12_161 inX12_readWhole seX12_readWhole myX12_readWhole (by decide) ⟨by decide, by decide⟩ rfl (kR15 hS1803.1 ta0) (Nat.le_of_ble_eq_true rfl) rfl rfl (by decide) (by decide) (k_X12_readWhole hS1803.1 ta0) ?_
                                      rintro v1823 cn' K' N' I1819 R1820 L1821 ⟨rfl, rfl, rfl, rfl, g1822, p1824, w1825, -⟩
                                      have hS1826 := hS1803.tr g1822 (by decide +kernel) (by decide +kernel)
                                      have c1827 : I1819 a1 0 = v29 := (g1822.cell ta1 (by decide +kernel)).trans c1804
                                      have c1828 : I1819 a1 1 = v33 := (g1822.cell ta1 (by decide +kernel)).trans c1805
                                      have b1829 : 0 ≤ v1823.toInt ∧ v1823.toInt ≤ 99 := by omega
                                      clear p1824
                                      have hO1830 : FrO 14 a1 T I0 I1819 := hO1806.st g1822 (by decide +kernel)
                                      have ov1831 := w1825.over (by rw [c1809]; omega)
                                      obtain ⟨v1832, c1833⟩ : ∃ v, I1819 a0 9 = v := ⟨_, rfl⟩
                                      have b1834 := iv15_9 hS1826.1 ta0 c1833
                                      obtain ⟨v1835, c1836⟩ : ∃ v, I1819 a0 13 = v := ⟨_, rfl⟩
                                      obtain ⟨v1837, c1838⟩ : ∃ v, I1819 a0 14 = v := ⟨_, rfl⟩
                                      (try rw [c1833] at ov1831)
                                      (try rw [c1836] at ov1831)
                                      (try rw [c1838] at ov1831)
                                      (try rw [c1809] at ov1831)
                                      (try rw [c1812] at ov1831)
                                      (try rw [c1814] at ov1831)
                                      refine q_iast dX12_readAlp_78 (kR53 hS1826.1 ta66) (ti_in (nR53 hS1826.1 ta66) (by omega) (by omega)) hS1826 ta66 (iokF rfl) rfl (by rfl) ?_
                                      intro I1839 hS1840 e1842 f1841
                                      have c1843 : I1839 a1 0 = v29 := (f1841 _ _ (fun q => by have z := ta1; rw [q.1, ta66] at z; exact absurd z (by decide))).trans c1827
                                      have c1844 : I1839 a1 1 = v33 := (f1841 _ _ (fun q => by have z := ta1; rw [q.1, ta66] at z; exact absurd z (by decide))).trans c1828
                                      have c1845 : I1839 a0 9 = v1832 := (f1841 _ _ (fun q => by have z := ta0; rw [q.1, ta66] at z; exact absurd z (by decide))).trans c1833
                                      have c1846 : I1839 a0 13 = v1835 := (f1841 _ _ (fun q => by have z := ta0; rw [q.1, ta66] at z; exact absurd z (by decide))).trans c1836
                                      have c1847 : I1839 a0 14 = v1837 := (f1841 _ _ (fun q => by have z := ta0; rw [q.1, ta66] at z; exact absurd z (by decide))).trans c1838
                                      have hO1848 : FrO 14 a1 T I0 I1839 := hO1830.put f1841 ta66 (Or.inl (by decide))
                                      refine q_iincE dX12_readAlp_79 rfl (by decide) (by decide) (by intros; omega) ?_
                                      intro v1849 h1850
                                      refine tr_goto 48 dX12_readAlp_82 (by decide) ?_
                                      refine tr_iload_n dX12_readAlp_48 rfl ?_
                                      refine q_iconst dX12_readAlp_49 (by decide) ?_
                                      intro v1851 h1852
                                      refine q_icmp_ge 85 dX12_readAlp_50 (by decide) (fun h1853 => ?_) (fun h1853 => ?_)
                                      · skip
                                        refine tr_aload_n dX12_readAlp_85 rfl ?_
                                        refine q_getI dX12_readAlp_86 fl12_99 (kR15 hS1840.1 ta0) c1845 ?_
                                        refine q_iconst dX12_readAlp_89 (by decide) ?_
                                        intro v1854 h1855
                                        refine q_icmp_ne 94 dX12_readAlp_90 (by decide) (fun h1856 => ?_) (fun h1856 => ?_)
                                        · skip
                                          exfalso; omega
                                        · skip
                                          have eF := hF.eq
                                          have eP := hP.eq
                                          obtain ⟨v1857, c1858⟩ : ∃ v, I1839 a0 10 = v := ⟨_, rfl⟩
                                          have b1859 := iv15_10 hS1840.1 ta0 c1858
                                          obtain ⟨v1860, c1861⟩ : ∃ v, I1839 a0 11 = v := ⟨_, rfl⟩
                                          obtain ⟨y1862, c1863⟩ : ∃ v, L1821 a0 15 = v := ⟨_, rfl⟩
                                          obtain ⟨v1864, c1865⟩ : ∃ v, I1839 a0 12 = v := ⟨_, rfl⟩
                                          obtain ⟨v1866, c1867⟩ : ∃ v, I1839 a0 8 = v := ⟨_, rfl⟩
                                          have b1868 := iv15_8 hS1840.1 ta0 c1867
                                          exact tr_vret hZ dX12_readAlp_93 rfl (by decide) (by decide) ⟨rfl, rfl, rfl, rfl, rfl, hS1840, (fun b hb => (Option.some.inj (d2.symm.trans hb)) ▸ (((((((((((((((((((FrM.rf (R := R0) (b := a1) (T := T)).st g74 (by decide +kernel)).st g126 (by decide +kernel)).st g196 (by decide +kernel)).st g262 (by decide +kernel)).st g318 (by decide +kernel)).pu f372 (by decide) (by decide) d67).st g395 (by decide +kernel)).st g444 (by decide +kernel)).pu f498 (by decide) (by decide) d67).st g521 (by decide +kernel)).st g1702 (by decide +kernel)).pu f1721 (by decide) (by decide) d67).st g1740 (by decide +kernel)).st g1762 (by decide +kernel)).pu f1781 (by decide) (by decide) d67).st g1800 (by decide +kernel)).st g1822 (by decide +kernel)).pu f1841 (by decide) (by decide) d67)), (fun dr hd => (Option.some.inj (d2.symm.trans hd)) ▸ hO1848), (Or.inr (⟨(by (try rw [w109]); first | done | with_reducible assumption | omega), (by (try rw [w109]); (try rw [c1845]); first | done | with_reducible assumption | omega), (by (try rw [w109]); (try rw [c1846]); first | done | with_reducible assumption | omega), (by (try rw [w109]); (try rw [c1847]); first | done | with_reducible assumption | omega), trivial⟩)), trivial⟩
                                      · skip
                                        exfalso; omega
                      · skip
                        obtain ⟨v1869, c1870⟩ : ∃ v, I441 a0 9 = v := ⟨_, rfl⟩
                        have b1871 := iv15_9 hS449.1 ta0 c1870
                        rw [c1870] at p468
                        obtain ⟨v1872, c1873⟩ : ∃ v, I441 a0 13 = v := ⟨_, rfl⟩
                        rw [c1873] at p469
                        obtain ⟨v1874, c1875⟩ : ∃ v, I441 a0 14 = v := ⟨_, rfl⟩
                        rw [c1875] at p470
                        replace hF := hF.pos (by omega)
                        replace hP := hP.pos (by omega)
                        refine q_iast dX12_readAlp_78 (kR53 hS449.1 ta66) (ti_in (nR53 hS449.1 ta66) (by omega) (by omega)) hS449 ta66 (iokF rfl) rfl (by rfl) ?_
                        intro I1876 hS1877 e1879 f1878
                        have c1880 : I1876 a1 0 = v29 := (f1878 _ _ (fun q => by have z := ta1; rw [q.1, ta66] at z; exact absurd z (by decide))).trans c450
                        have c1881 : I1876 a1 1 = v33 := (f1878 _ _ (fun q => by have z := ta1; rw [q.1, ta66] at z; exact absurd z (by decide))).trans c451
                        have c1882 : I1876 a0 9 = v1869 := (f1878 _ _ (fun q => by have z := ta0; rw [q.1, ta66] at z; exact absurd z (by decide))).trans c1870
                        have c1883 : I1876 a0 13 = v1872 := (f1878 _ _ (fun q => by have z := ta0; rw [q.1, ta66] at z; exact absurd z (by decide))).trans c1873
                        have c1884 : I1876 a0 14 = v1874 := (f1878 _ _ (fun q => by have z := ta0; rw [q.1, ta66] at z; exact absurd z (by decide))).trans c1875
                        have hO1885 : FrO 14 a1 T I0 I1876 := hO452.put f1878 ta66 (Or.inl (by decide))
                        refine q_iincE dX12_readAlp_79 rfl (by decide) (by decide) (by intros; omega) ?_
                        intro v1886 h1887
                        refine tr_goto 48 dX12_readAlp_82 (by decide) ?_
                        refine tr_iload_n dX12_readAlp_48 rfl ?_
                        refine q_iconst dX12_readAlp_49 (by decide) ?_
                        intro v1888 h1889
                        refine q_icmp_ge 85 dX12_readAlp_50 (by decide) (fun h1890 => ?_) (fun h1890 => ?_)
                        · skip
                          exfalso; omega
                        · skip
                          refine tr_iload_n dX12_readAlp_53 rfl ?_
                          refine q_if_le 63 dX12_readAlp_54 (by decide) (fun h1891 => ?_) (fun h1891 => ?_)
                          · skip
                            exfalso; omega
                          · skip
                            refine tr_aload_n dX12_readAlp_57 rfl ?_
                            refine q_bipush dX12_readAlp_58 (by decide +kernel) ?_
                            intro v1892 h1893
                            refine q_callVv hE (M' := mX12_needsSign) (as := [_]) dX12_readAlp_60 lk12_257 inX12_needsSign seX12_needsSign myX12_needsSign (by decide) ⟨by decide, by decide⟩ rfl (kR15 hS1877.1 ta0) (Nat.le_of_ble_eq_true rfl) rfl rfl (by decide) (by decide) (k_X12_needsSign hS1877.1 ta0) ?_
                            rintro cn' K' N' I1894 R1895 L1896 ⟨rfl, rfl, rfl, rfl, g1897, w1899, -⟩
                            have hS1900 := hS1877.tr g1897 (by decide +kernel) (by decide +kernel)
                            have c1901 : I1894 a1 0 = v29 := (g1897.cell ta1 (by decide +kernel)).trans c1880
                            have c1902 : I1894 a1 1 = v33 := (g1897.cell ta1 (by decide +kernel)).trans c1881
                            have hO1903 : FrO 14 a1 T I0 I1894 := hO1885.st g1897 (by decide +kernel)
                            have ov1904 := w1899.over (by rw [c1882]; omega)
                            obtain ⟨v1905, c1906⟩ : ∃ v, I1894 a0 9 = v := ⟨_, rfl⟩
                            have b1907 := iv15_9 hS1900.1 ta0 c1906
                            obtain ⟨v1908, c1909⟩ : ∃ v, I1894 a0 13 = v := ⟨_, rfl⟩
                            obtain ⟨v1910, c1911⟩ : ∃ v, I1894 a0 14 = v := ⟨_, rfl⟩
                            (try rw [c1906] at ov1904)
                            (try rw [c1909] at ov1904)
                            (try rw [c1911] at ov1904)
                            (try rw [c1882] at ov1904)
                            (try rw [c1883] at ov1904)
                            (try rw [c1884] at ov1904)
                            refine tr_aload_n dX12_readAlp_63 rfl ?_
                            refine tr_getR dX12_readAlp_64 fl12_188 (kR15 hS1900.1 ta0) d2 ?_
                            refine tr_getR dX12_readAlp_67 fl12_260 (kR14 hS1900.1 ta1) d67 ?_
                            refine tr_iload_n dX12_readAlp_70 rfl ?_
                            refine tr_aload_n dX12_readAlp_71 rfl ?_
                            refine q_iconst dX12_readAlp_72 (by decide) ?_
                            intro v1912 h1913
                            refine q_bipush dX12_readAlp_73 (by decide +kernel) ?_
                            intro v1914 h1915
                            refine q_callVi hE (M' := mX12_readWhole) (as := [_, _]) dX12_readAlp_75 lk12_161 inX12_readWhole seX12_readWhole myX12_readWhole (by decide) ⟨by decide, by decide⟩ rfl (kR15 hS1900.1 ta0) (Nat.le_of_ble_eq_true rfl) rfl rfl (by decide) (by decide) (k_X12_readWhole hS1900.1 ta0) ?_
                            rintro v1920 cn' K' N' I1916 R1917 L1918 ⟨rfl, rfl, rfl, rfl, g1919, p1921, w1922, -⟩
                            have hS1923 := hS1900.tr g1919 (by decide +kernel) (by decide +kernel)
                            have c1924 : I1916 a1 0 = v29 := (g1919.cell ta1 (by decide +kernel)).trans c1901
                            have c1925 : I1916 a1 1 = v33 := (g1919.cell ta1 (by decide +kernel)).trans c1902
                            have b1926 : 0 ≤ v1920.toInt ∧ v1920.toInt ≤ 99 := by omega
                            clear p1921
                            have hO1927 : FrO 14 a1 T I0 I1916 := hO1903.st g1919 (by decide +kernel)
                            have ov1928 := w1922.over (by rw [c1906]; omega)
                            obtain ⟨v1929, c1930⟩ : ∃ v, I1916 a0 9 = v := ⟨_, rfl⟩
                            have b1931 := iv15_9 hS1923.1 ta0 c1930
                            obtain ⟨v1932, c1933⟩ : ∃ v, I1916 a0 13 = v := ⟨_, rfl⟩
                            obtain ⟨v1934, c1935⟩ : ∃ v, I1916 a0 14 = v := ⟨_, rfl⟩
                            (try rw [c1930] at ov1928)
                            (try rw [c1933] at ov1928)
                            (try rw [c1935] at ov1928)
                            (try rw [c1906] at ov1928)
                            (try rw [c1909] at ov1928)
                            (try rw [c1911] at ov1928)
                            refine q_iast dX12_readAlp_78 (kR53 hS1923.1 ta66) (ti_in (nR53 hS1923.1 ta66) (by omega) (by omega)) hS1923 ta66 (iokF rfl) rfl (by rfl) ?_
                            intro I1936 hS1937 e1939 f1938
                            have c1940 : I1936 a1 0 = v29 := (f1938 _ _ (fun q => by have z := ta1; rw [q.1, ta66] at z; exact absurd z (by decide))).trans c1924
                            have c1941 : I1936 a1 1 = v33 := (f1938 _ _ (fun q => by have z := ta1; rw [q.1, ta66] at z; exact absurd z (by decide))).trans c1925
                            have c1942 : I1936 a0 9 = v1929 := (f1938 _ _ (fun q => by have z := ta0; rw [q.1, ta66] at z; exact absurd z (by decide))).trans c1930
                            have c1943 : I1936 a0 13 = v1932 := (f1938 _ _ (fun q => by have z := ta0; rw [q.1, ta66] at z; exact absurd z (by decide))).trans c1933
                            have c1944 : I1936 a0 14 = v1934 := (f1938 _ _ (fun q => by have z := ta0; rw [q.1, ta66] at z; exact absurd z (by decide))).trans c1935
                            have hO1945 : FrO 14 a1 T I0 I1936 := hO1927.put f1938 ta66 (Or.inl (by decide))
                            refine q_iincE dX12_readAlp_79 rfl (by decide) (by decide) (by intros; omega) ?_
                            intro v1946 h1947
                            refine tr_goto 48 dX12_readAlp_82 (by decide) ?_
                            refine tr_iload_n dX12_readAlp_48 rfl ?_
                            refine q_iconst dX12_readAlp_49 (by decide) ?_
                            intro v1948 h1949
                            refine q_icmp_ge 85 dX12_readAlp_50 (by decide) (fun h1950 => ?_) (fun h1950 => ?_)
                            · skip
                              exfalso; omega
                            · skip
                              refine tr_iload_n dX12_readAlp_53 rfl ?_
                              refine q_if_le 63 dX12_readAlp_54 (by decide) (fun h1951 => ?_) (fun h1951 => ?_)
                              · skip
                                exfalso; omega
                              · skip
                                refine tr_aload_n dX12_readAlp_57 rfl ?_
                                refine q_bipush dX12_readAlp_58 (by decide +kernel) ?_
                                intro v1952 h1953
                                refine q_callVv hE (M' := mX12_needsSign) (as := [_]) dX12_readAlp_60 lk12_257 inX12_needsSign seX12_needsSign myX12_needsSign (by decide) ⟨by decide, by decide⟩ rfl (kR15 hS1937.1 ta0) (Nat.le_of_ble_eq_true rfl) rfl rfl (by decide) (by decide) (k_X12_needsSign hS1937.1 ta0) ?_
                                rintro cn' K' N' I1954 R1955 L1956 ⟨rfl, rfl, rfl, rfl, g1957, w1959, -⟩
                                have hS1960 := hS1937.tr g1957 (by decide +kernel) (by decide +kernel)
                                have c1961 : I1954 a1 0 = v29 := (g1957.cell ta1 (by decide +kernel)).trans c1940
                                have c1962 : I1954 a1 1 = v33 := (g1957.cell ta1 (by decide +kernel)).trans c1941
                                have hO1963 : FrO 14 a1 T I0 I1954 := hO1945.st g1957 (by decide +kernel)
                                have ov1964 := w1959.over (by rw [c1942]; omega)
                                obtain ⟨v1965, c1966⟩ : ∃ v, I1954 a0 9 = v := ⟨_, rfl⟩
                                have b1967 := iv15_9 hS1960.1 ta0 c1966
                                obtain ⟨v1968, c1969⟩ : ∃ v, I1954 a0 13 = v := ⟨_, rfl⟩
                                obtain ⟨v1970, c1971⟩ : ∃ v, I1954 a0 14 = v := ⟨_, rfl⟩
                                (try rw [c1966] at ov1964)
                                (try rw [c1969] at ov1964)
                                (try rw [c1971] at ov1964)
                                (try rw [c1942] at ov1964)
                                (try rw [c1943] at ov1964)
                                (try rw [c1944] at ov1964)
                                refine tr_aload_n dX12_readAlp_63 rfl ?_
                                refine tr_getR dX12_readAlp_64 fl12_188 (kR15 hS1960.1 ta0) d2 ?_
                                refine tr_getR dX12_readAlp_67 fl12_260 (kR14 hS1960.1 ta1) d67 ?_
                                refine tr_iload_n dX12_readAlp_70 rfl ?_
                                refine tr_aload_n dX12_readAlp_71 rfl ?_
                                refine q_iconst dX12_readAlp_72 (by decide) ?_
                                intro v1972 h1973
                                refine q_bipush dX12_readAlp_73 (by decide +kernel) ?_
                                intro v1974 h1975
                                refine q_callVi hE (M' := mX12_readWhole) (as := [_, _]) dX12_readAlp_75 lk12_161 inX12_readWhole seX12_readWhole myX12_readWhole (by decide) ⟨by decide, by decide⟩ rfl (kR15 hS1960.1 ta0) (Nat.le_of_ble_eq_true rfl) rfl rfl (by decide) (by decide) (k_X12_readWhole hS1960.1 ta0) ?_
                                rintro v1980 cn' K' N' I1976 R1977 L1978 ⟨rfl, rfl, rfl, rfl, g1979, p1981, w1982, -⟩
                                have hS1983 := hS1960.tr g1979 (by decide +kernel) (by decide +kernel)
                                have c1984 : I1976 a1 0 = v29 := (g1979.cell ta1 (by decide +kernel)).trans c1961
                                have c1985 : I1976 a1 1 = v33 := (g1979.cell ta1 (by decide +kernel)).trans c1962
                                have b1986 : 0 ≤ v1980.toInt ∧ v1980.toInt ≤ 99 := by omega
                                clear p1981
                                have hO1987 : FrO 14 a1 T I0 I1976 := hO1963.st g1979 (by decide +kernel)
                                have ov1988 := w1982.over (by rw [c1966]; omega)
                                obtain ⟨v1989, c1990⟩ : ∃ v, I1976 a0 9 = v := ⟨_, rfl⟩
                                have b1991 := iv15_9 hS1983.1 ta0 c1990
                                obtain ⟨v1992, c1993⟩ : ∃ v, I1976 a0 13 = v := ⟨_, rfl⟩
                                obtain ⟨v1994, c1995⟩ : ∃ v, I1976 a0 14 = v := ⟨_, rfl⟩
                                (try rw [c1990] at ov1988)
                                (try rw [c1993] at ov1988)
                                (try rw [c1995] at ov1988)
                                (try rw [c1966] at ov1988)
                                (try rw [c1969] at ov1988)
                                (try rw [c1971] at ov1988)
                                refine q_iast dX12_readAlp_78 (kR53 hS1983.1 ta66) (ti_in (nR53 hS1983.1 ta66) (by omega) (by omega)) hS1983 ta66 (iokF rfl) rfl (by rfl) ?_
                                intro I1996 hS1997 e1999 f1998
                                have c2000 : I1996 a1 0 = v29 := (f1998 _ _ (fun q => by have z := ta1; rw [q.1, ta66] at z; exact absurd z (by decide))).trans c1984
                                have c2001 : I1996 a1 1 = v33 := (f1998 _ _ (fun q => by have z := ta1; rw [q.1, ta66] at z; exact absurd z (by decide))).trans c1985
                                have c2002 : I1996 a0 9 = v1989 := (f1998 _ _ (fun q => by have z := ta0; rw [q.1, ta66] at z; exact absurd z (by decide))).trans c1990
                                have c2003 : I1996 a0 13 = v1992 := (f1998 _ _ (fun q => by have z := ta0; rw [q.1, ta66] at z; exact absurd z (by decide))).trans c1993
                                have c2004 : I1996 a0 14 = v1994 := (f1998 _ _ (fun q => by have z := ta0; rw [q.1, ta66] at z; exact absurd z (by decide))).trans c1995
                                have hO2005 : FrO 14 a1 T I0 I1996 := hO1987.put f1998 ta66 (Or.inl (by decide))
                                refine q_iincE dX12_readAlp_79 rfl (by decide) (by decide) (by intros; omega) ?_
                                intro v2006 h2007
                                refine tr_goto 48 dX12_readAlp_82 (by decide) ?_
                                refine tr_iload_n dX12_readAlp_48 rfl ?_
                                refine q_iconst dX12_readAlp_49 (by decide) ?_
                                intro v2008 h2009
                                refine q_icmp_ge 85 dX12_readAlp_50 (by decide) (fun h2010 => ?_) (fun h2010 => ?_)
                                · skip
                                  exfalso; omega
                                · skip
                                  refine tr_iload_n dX12_readAlp_53 rfl ?_
                                  refine q_if_le 63 dX12_readAlp_54 (by decide) (fun h2011 => ?_) (fun h2011 => ?_)
                                  · skip
                                    exfalso; omega
                                  · skip
                                    refine tr_aload_n dX12_readAlp_57 rfl ?_
                                    refine q_bipush dX12_readAlp_58 (by decide +kernel) ?_
                                    intro v2012 h2013
                                    refine q_callVv hE (M' := mX12_needsSign) (as := [_]) dX12_readAlp_60 lk12_257 inX12_needsSign seX12_needsSign myX12_needsSign (by decide) ⟨by decide, by decide⟩ rfl (kR15 hS1997.1 ta0) (Nat.le_of_ble_eq_true rfl) rfl rfl (by decide) (by decide) (k_X12_needsSign hS1997.1 ta0) ?_
                                    rintro cn' K' N' I2014 R2015 L2016 ⟨rfl, rfl, rfl, rfl, g2017, w2019, -⟩
                                    have hS2020 := hS1997.tr g2017 (by decide +kernel) (by decide +kernel)
                                    have c2021 : I2014 a1 0 = v29 := (g2017.cell ta1 (by decide +kernel)).trans c2000
                                    have c2022 : I2014 a1 1 = v33 := (g2017.cell ta1 (by decide +kernel)).trans c2001
                                    have hO2023 : FrO 14 a1 T I0 I2014 := hO2005.st g2017 (by decide +kernel)
                                    have ov2024 := w2019.over (by rw [c2002]; omega)
                                    obtain ⟨v2025, c2026⟩ : ∃ v, I2014 a0 9 = v := ⟨_, rfl⟩
                                    have b2027 := iv15_9 hS2020.1 ta0 c2026
                                    obtain ⟨v2028, c2029⟩ : ∃ v, I2014 a0 13 = v := ⟨_, rfl⟩
                                    obtain ⟨v2030, c2031⟩ : ∃ v, I2014 a0 14 = v := ⟨_, rfl⟩
                                    (try rw [c2026] at ov2024)
                                    (try rw [c2029] at ov2024)
                                    (try rw [c2031] at ov2024)
                                    (try rw [c2002] at ov2024)
                                    (try rw [c2003] at ov2024)
                                    (try rw [c2004] at ov2024)
                                    refine tr_aload_n dX12_readAlp_63 rfl ?_
                                    refine tr_getR dX12_readAlp_64 fl12_188 (kR15 hS2020.1 ta0) d2 ?_
                                    refine tr_getR dX12_readAlp_67 fl12_260 (kR14 hS2020.1 ta1) d67 ?_
                                    refine tr_iload_n dX12_readAlp_70 rfl ?_
                                    refine tr_aload_n dX12_readAlp_71 rfl ?_
                                    refine q_iconst dX12_readAlp_72 (by decide) ?_
                                    intro v2032 h2033
                                    refine q_bipush dX12_readAlp_73 (by decide +kernel) ?_
                                    intro v2034 h2035
                                    refine q_callVi hE (M' := mX12_readWhole) (as := [_, _]) dX12_readAlp_75 lk12_161 inX12_readWhole seX12_readWhole myX12_readWhole (by decide) ⟨by decide, by decide⟩ rfl (kR15 hS2020.1 ta0) (Nat.le_of_ble_eq_true rfl) rfl rfl (by decide) (by decide) (k_X12_readWhole hS2020.1 ta0) ?_
                                    rintro v2040 cn' K' N' I2036 R2037 L2038 ⟨rfl, rfl, rfl, rfl, g2039, p2041, w2042, -⟩
                                    have hS2043 := hS2020.tr g2039 (by decide +kernel) (by decide +kernel)
                                    have c2044 : I2036 a1 0 = v29 := (g2039.cell ta1 (by decide +kernel)).trans c2021
                                    have c2045 : I2036 a1 1 = v33 := (g2039.cell ta1 (by decide +kernel)).trans c2022
                                    have b2046 : 0 ≤ v2040.toInt ∧ v2040.toInt ≤ 99 := by omega
                                    clear p2041
                                    have hO2047 : FrO 14 a1 T I0 I2036 := hO2023.st g2039 (by decide +kernel)
                                    have ov2048 := w2042.over (by rw [c2026]; omega)
                                    obtain ⟨v2049, c2050⟩ : ∃ v, I2036 a0 9 = v := ⟨_, rfl⟩
                                    have b2051 := iv15_9 hS2043.1 ta0 c2050
                                    obtain ⟨v2052, c2053⟩ : ∃ v, I2036 a0 13 = v := ⟨_, rfl⟩
                                    obtain ⟨v2054, c2055⟩ : ∃ v, I2036 a0 14 = v := ⟨_, rfl⟩
                                    (try rw [c2050] at ov2048)
                                    (try rw [c2053] at ov2048)
                                    (try rw [c2055] at ov2048)
                                    (try rw [c2026] at ov2048)
                                    (try rw [c2029] at ov2048)
                                    (try rw [c2031] at ov2048)
                                    refine q_iast dX12_readAlp_78 (kR53 hS2043.1 ta66) (ti_in (nR53 hS2043.1 ta66) (by omega) (by omega)) hS2043 ta66 (iokF rfl) rfl (by rfl) ?_
                                    intro I2056 hS2057 e2059 f2058
                                    have c2060 : I2056 a1 0 = v29 := (f2058 _ _ (fun q => by have z := ta1; rw [q.1, ta66] at z; exact absurd z (by decide))).trans c2044
                                    have c2061 : I2056 a1 1 = v33 := (f2058 _ _ (fun q => by have z := ta1; rw [q.1, ta66] at z; exact absurd z (by decide))).trans c2045
                                    have c2062 : I2056 a0 9 = v2049 := (f2058 _ _ (fun q => by have z := ta0; rw [q.1, ta66] at z; exact absurd z (by decide))).trans c2050
                                    have c2063 : I2056 a0 13 = v2052 := (f2058 _ _ (fun q => by have z := ta0; rw [q.1, ta66] at z; exact absurd z (by decide))).trans c2053
                                    have c2064 : I2056 a0 14 = v2054 := (f2058 _ _ (fun q => by have z := ta0; rw [q.1, ta66] at z; exact absurd z (by decide))).trans c2055
                                    have hO2065 : FrO 14 a1 T I0 I2056 := hO2047.put f2058 ta66 (Or.inl (by decide))
                                    refine q_iincE dX12_readAlp_79 rfl (by decide) (by decide) (by intros; omega) ?_
                                    intro v2066 h2067
                                    refine tr_goto 48 dX12_readAlp_82 (by decide) ?_
                                    refine tr_iload_n dX12_readAlp_48 rfl ?_
                                    refine q_iconst dX12_readAlp_49 (by decide) ?_
                                    intro v2068 h2069
                                    refine q_icmp_ge 85 dX12_readAlp_50 (by decide) (fun h2070 => ?_) (fun h2070 => ?_)
                                    · skip
                                      refine tr_aload_n dX12_readAlp_85 rfl ?_
                                      refine q_getI dX12_readAlp_86 fl12_99 (kR15 hS2057.1 ta0) c2062 ?_
                                      refine q_iconst dX12_readAlp_89 (by decide) ?_
                                      intro v2071 h2072
                                      refine q_icmp_ne 94 dX12_readAlp_90 (by decide) (fun h2073 => ?_) (fun h2073 => ?_)
                                      · skip
                                        exfalso; omega
                                      · skip
                                        have eF := hF.eq
                                        have eP := hP.eq
                                        obtain ⟨v2074, c2075⟩ : ∃ v, I2056 a0 10 = v := ⟨_, rfl⟩
                                        have b2076 := iv15_10 hS2057.1 ta0 c2075
                                        obtain ⟨v2077, c2078⟩ : ∃ v, I2056 a0 11 = v := ⟨_, rfl⟩
                                        obtain ⟨y2079, c2080⟩ : ∃ v, L2038 a0 15 = v := ⟨_, rfl⟩
                                        obtain ⟨v2081, c2082⟩ : ∃ v, I2056 a0 12 = v := ⟨_, rfl⟩
                                        obtain ⟨v2083, c2084⟩ : ∃ v, I2056 a0 8 = v := ⟨_, rfl⟩
                                        have b2085 := iv15_8 hS2057.1 ta0 c2084
                                        exact tr_vret hZ dX12_readAlp_93 rfl (by decide) (by decide) ⟨rfl, rfl, rfl, rfl, rfl, hS2057, (fun b hb => (Option.some.inj (d2.symm.trans hb)) ▸ (((((((((((((((((((FrM.rf (R := R0) (b := a1) (T := T)).st g74 (by decide +kernel)).st g126 (by decide +kernel)).st g196 (by decide +kernel)).st g262 (by decide +kernel)).st g318 (by decide +kernel)).pu f372 (by decide) (by decide) d67).st g395 (by decide +kernel)).st g444 (by decide +kernel)).pu f1878 (by decide) (by decide) d67).st g1897 (by decide +kernel)).st g1919 (by decide +kernel)).pu f1938 (by decide) (by decide) d67).st g1957 (by decide +kernel)).st g1979 (by decide +kernel)).pu f1998 (by decide) (by decide) d67).st g2017 (by decide +kernel)).st g2039 (by decide +kernel)).pu f2058 (by decide) (by decide) d67)), (fun dr hd => (Option.some.inj (d2.symm.trans hd)) ▸ hO2065), (Or.inr (⟨(by (try rw [w109]); first | done | with_reducible assumption | omega), (by (try rw [w109]); (try rw [c2062]); first | done | with_reducible assumption | omega), (by (try rw [w109]); (try rw [c2063]); first | done | with_reducible assumption | omega), (by (try rw [w109]); (try rw [c2064]); first | done | with_reducible assumption | omega), trivial⟩)), trivial⟩
                                    · skip
                                      exfalso; omega
                      · skip
                        obtain ⟨v2086, c2087⟩ : ∃ v, I441 a0 9 = v := ⟨_, rfl⟩
                        have b2088 := iv15_9 hS449.1 ta0 c2087
                        rw [c2087] at p474
                        obtain ⟨v2089, c2090⟩ : ∃ v, I441 a0 13 = v := ⟨_, rfl⟩
                        rw [c2090] at p475
                        obtain ⟨v2091, c2092⟩ : ∃ v, I441 a0 14 = v := ⟨_, rfl⟩
                        rw [c2092] at p476
                        replace hF := hF.neg (by omega)
                        replace hP := hP.neg (by omega)
                        replace hF := hF.pos (by omega)
                        replace hP := hP.pos (by omega)
                        refine q_iast dX12_readAlp_78 (kR53 hS449.1 ta66) (ti_in (nR53 hS449.1 ta66) (by omega) (by omega)) hS449 ta66 (iokF rfl) rfl (by rfl) ?_
                        intro I2093 hS2094 e2096 f2095
                        have c2097 : I2093 a1 0 = v29 := (f2095 _ _ (fun q => by have z := ta1; rw [q.1, ta66] at z; exact absurd z (by decide))).trans c450
                        have c2098 : I2093 a1 1 = v33 := (f2095 _ _ (fun q => by have z := ta1; rw [q.1, ta66] at z; exact absurd z (by decide))).trans c451
                        have c2099 : I2093 a0 9 = v2086 := (f2095 _ _ (fun q => by have z := ta0; rw [q.1, ta66] at z; exact absurd z (by decide))).trans c2087
                        have c2100 : I2093 a0 13 = v2089 := (f2095 _ _ (fun q => by have z := ta0; rw [q.1, ta66] at z; exact absurd z (by decide))).trans c2090
                        have c2101 : I2093 a0 14 = v2091 := (f2095 _ _ (fun q => by have z := ta0; rw [q.1, ta66] at z; exact absurd z (by decide))).trans c2092
                        have hO2102 : FrO 14 a1 T I0 I2093 := hO452.put f2095 ta66 (Or.inl (by decide))
                        refine q_iincE dX12_readAlp_79 rfl (by decide) (by decide) (by intros; omega) ?_
                        intro v2103 h2104
                        refine tr_goto 48 dX12_readAlp_82 (by decide) ?_
                        refine tr_iload_n dX12_readAlp_48 rfl ?_
                        refine q_iconst dX12_readAlp_49 (by decide) ?_
                        intro v2105 h2106
                        refine q_icmp_ge 85 dX12_readAlp_50 (by decide) (fun h2107 => ?_) (fun h2107 => ?_)
                        · skip
                          exfalso; omega
                        · skip
                          refine tr_iload_n dX12_readAlp_53 rfl ?_
                          refine q_if_le 63 dX12_readAlp_54 (by decide) (fun h2108 => ?_) (fun h2108 => ?_)
                          · skip
                            exfalso; omega
                          · skip
                            refine tr_aload_n dX12_readAlp_57 rfl ?_
                            refine q_bipush dX12_readAlp_58 (by decide +kernel) ?_
                            intro v2109 h2110
                            refine q_callVv hE (M' := mX12_needsSign) (as := [_]) dX12_readAlp_60 lk12_257 inX12_needsSign seX12_needsSign myX12_needsSign (by decide) ⟨by decide, by decide⟩ rfl (kR15 hS2094.1 ta0) (Nat.le_of_ble_eq_true rfl) rfl rfl (by decide) (by decide) (k_X12_needsSign hS2094.1 ta0) ?_
                            rintro cn' K' N' I2111 R2112 L2113 ⟨rfl, rfl, rfl, rfl, g2114, w2116, -⟩
                            have hS2117 := hS2094.tr g2114 (by decide +kernel) (by decide +kernel)
                            have c2118 : I2111 a1 0 = v29 := (g2114.cell ta1 (by decide +kernel)).trans c2097
                            have c2119 : I2111 a1 1 = v33 := (g2114.cell ta1 (by decide +kernel)).trans c2098
                            have hO2120 : FrO 14 a1 T I0 I2111 := hO2102.st g2114 (by decide +kernel)
                            have ov2121 := w2116.over (by rw [c2099]; omega)
                            obtain ⟨v2122, c2123⟩ : ∃ v, I2111 a0 9 = v := ⟨_, rfl⟩
                            have b2124 := iv15_9 hS2117.1 ta0 c2123
                            obtain ⟨v2125, c2126⟩ : ∃ v, I2111 a0 13 = v := ⟨_, rfl⟩
                            obtain ⟨v2127, c2128⟩ : ∃ v, I2111 a0 14 = v := ⟨_, rfl⟩
                            (try rw [c2123] at ov2121)
                            (try rw [c2126] at ov2121)
                            (try rw [c2128] at ov2121)
                            (try rw [c2099] at ov2121)
                            (try rw [c2100] at ov2121)
                            (try rw [c2101] at ov2121)
                            refine tr_aload_n dX12_readAlp_63 rfl ?_
                            refine tr_getR dX12_readAlp_64 fl12_188 (kR15 hS2117.1 ta0) d2 ?_
                            refine tr_getR dX12_readAlp_67 fl12_260 (kR14 hS2117.1 ta1) d67 ?_
                            refine tr_iload_n dX12_readAlp_70 rfl ?_
                            refine tr_aload_n dX12_readAlp_71 rfl ?_
                            refine q_iconst dX12_readAlp_72 (by decide) ?_
                            intro v2129 h2130
                            refine q_bipush dX12_readAlp_73 (by decide +kernel) ?_
                            intro v2131 h2132
                            refine q_callVi hE (M' := mX12_readWhole) (as := [_, _]) dX12_readAlp_75 lk12_161 inX12_readWhole seX12_readWhole myX12_readWhole (by decide) ⟨by decide, by decide⟩ rfl (kR15 hS2117.1 ta0) (Nat.le_of_ble_eq_true rfl) rfl rfl (by decide) (by decide) (k_X12_readWhole hS2117.1 ta0) ?_
                            rintro v2137 cn' K' N' I2133 R2134 L2135 ⟨rfl, rfl, rfl, rfl, g2136, p2138, w2139, -⟩
                            have hS2140 := hS2117.tr g2136 (by decide +kernel) (by decide +kernel)
                            have c2141 : I2133 a1 0 = v29 := (g2136.cell ta1 (by decide +kernel)).trans c2118
                            have c2142 : I2133 a1 1 = v33 := (g2136.cell ta1 (by decide +kernel)).trans c2119
                            have b2143 : 0 ≤ v2137.toInt ∧ v2137.toInt ≤ 99 := by omega
                            clear p2138
                            have hO2144 : FrO 14 a1 T I0 I2133 := hO2120.st g2136 (by decide +kernel)
                            have ov2145 := w2139.over (by rw [c2123]; omega)
                            obtain ⟨v2146, c2147⟩ : ∃ v, I2133 a0 9 = v := ⟨_, rfl⟩
                            have b2148 := iv15_9 hS2140.1 ta0 c2147
                            obtain ⟨v2149, c2150⟩ : ∃ v, I2133 a0 13 = v := ⟨_, rfl⟩
                            obtain ⟨v2151, c2152⟩ : ∃ v, I2133 a0 14 = v := ⟨_, rfl⟩
                            (try rw [c2147] at ov2145)
                            (try rw [c2150] at ov2145)
                            (try rw [c2152] at ov2145)
                            (try rw [c2123] at ov2145)
                            (try rw [c2126] at ov2145)
                            (try rw [c2128] at ov2145)
                            refine q_iast dX12_readAlp_78 (kR53 hS2140.1 ta66) (ti_in (nR53 hS2140.1 ta66) (by omega) (by omega)) hS2140 ta66 (iokF rfl) rfl (by rfl) ?_
                            intro I2153 hS2154 e2156 f2155
                            have c2157 : I2153 a1 0 = v29 := (f2155 _ _ (fun q => by have z := ta1; rw [q.1, ta66] at z; exact absurd z (by decide))).trans c2141
                            have c2158 : I2153 a1 1 = v33 := (f2155 _ _ (fun q => by have z := ta1; rw [q.1, ta66] at z; exact absurd z (by decide))).trans c2142
                            have c2159 : I2153 a0 9 = v2146 := (f2155 _ _ (fun q => by have z := ta0; rw [q.1, ta66] at z; exact absurd z (by decide))).trans c2147
                            have c2160 : I2153 a0 13 = v2149 := (f2155 _ _ (fun q => by have z := ta0; rw [q.1, ta66] at z; exact absurd z (by decide))).trans c2150
                            have c2161 : I2153 a0 14 = v2151 := (f2155 _ _ (fun q => by have z := ta0; rw [q.1, ta66] at z; exact absurd z (by decide))).trans c2152
                            have hO2162 : FrO 14 a1 T I0 I2153 := hO2144.put f2155 ta66 (Or.inl (by decide))
                            refine q_iincE dX12_readAlp_79 rfl (by decide) (by decide) (by intros; omega) ?_
                            intro v2163 h2164
                            refine tr_goto 48 dX12_readAlp_82 (by decide) ?_
                            refine tr_iload_n dX12_readAlp_48 rfl ?_
                            refine q_iconst dX12_readAlp_49 (by decide) ?_
                            intro v2165 h2166
                            refine q_icmp_ge 85 dX12_readAlp_50 (by decide) (fun h2167 => ?_) (fun h2167 => ?_)
                            · skip
                              exfalso; omega
                            · skip
                              refine tr_iload_n dX12_readAlp_53 rfl ?_
                              refine q_if_le 63 dX12_readAlp_54 (by decide) (fun h2168 => ?_) (fun h2168 => ?_)
                              · skip
                                exfalso; omega
                              · skip
                                refine tr_aload_n dX12_readAlp_57 rfl ?_
                                refine q_bipush dX12_readAlp_58 (by decide +kernel) ?_
                                intro v2169 h2170
                                refine q_callVv hE (M' := mX12_needsSign) (as := [_]) dX12_readAlp_60 lk12_257 inX12_needsSign seX12_needsSign myX12_needsSign (by decide) ⟨by decide, by decide⟩ rfl (kR15 hS2154.1 ta0) (Nat.le_of_ble_eq_true rfl) rfl rfl (by decide) (by decide) (k_X12_needsSign hS2154.1 ta0) ?_
                                rintro cn' K' N' I2171 R2172 L2173 ⟨rfl, rfl, rfl, rfl, g2174, w2176, -⟩
                                have hS2177 := hS2154.tr g2174 (by decide +kernel) (by decide +kernel)
                                have c2178 : I2171 a1 0 = v29 := (g2174.cell ta1 (by decide +kernel)).trans c2157
                                have c2179 : I2171 a1 1 = v33 := (g2174.cell ta1 (by decide +kernel)).trans c2158
                                have hO2180 : FrO 14 a1 T I0 I2171 := hO2162.st g2174 (by decide +kernel)
                                have ov2181 := w2176.over (by rw [c2159]; omega)
                                obtain ⟨v2182, c2183⟩ : ∃ v, I2171 a0 9 = v := ⟨_, rfl⟩
                                have b2184 := iv15_9 hS2177.1 ta0 c2183
                                obtain ⟨v2185, c2186⟩ : ∃ v, I2171 a0 13 = v := ⟨_, rfl⟩
                                obtain ⟨v2187, c2188⟩ : ∃ v, I2171 a0 14 = v := ⟨_, rfl⟩
                                (try rw [c2183] at ov2181)
                                (try rw [c2186] at ov2181)
                                (try rw [c2188] at ov2181)
                                (try rw [c2159] at ov2181)
                                (try rw [c2160] at ov2181)
                                (try rw [c2161] at ov2181)
                                refine tr_aload_n dX12_readAlp_63 rfl ?_
                                refine tr_getR dX12_readAlp_64 fl12_188 (kR15 hS2177.1 ta0) d2 ?_
                                refine tr_getR dX12_readAlp_67 fl12_260 (kR14 hS2177.1 ta1) d67 ?_
                                refine tr_iload_n dX12_readAlp_70 rfl ?_
                                refine tr_aload_n dX12_readAlp_71 rfl ?_
                                refine q_iconst dX12_readAlp_72 (by decide) ?_
                                intro v2189 h2190
                                refine q_bipush dX12_readAlp_73 (by decide +kernel) ?_
                                intro v2191 h2192
                                refine q_callVi hE (M' := mX12_readWhole) (as := [_, _]) dX12_readAlp_75 lk12_161 inX12_readWhole seX12_readWhole myX12_readWhole (by decide) ⟨by decide, by decide⟩ rfl (kR15 hS2177.1 ta0) (Nat.le_of_ble_eq_true rfl) rfl rfl (by decide) (by decide) (k_X12_readWhole hS2177.1 ta0) ?_
                                rintro v2197 cn' K' N' I2193 R2194 L2195 ⟨rfl, rfl, rfl, rfl, g2196, p2198, w2199, -⟩
                                have hS2200 := hS2177.tr g2196 (by decide +kernel) (by decide +kernel)
                                have c2201 : I2193 a1 0 = v29 := (g2196.cell ta1 (by decide +kernel)).trans c2178
                                have c2202 : I2193 a1 1 = v33 := (g2196.cell ta1 (by decide +kernel)).trans c2179
                                have b2203 : 0 ≤ v2197.toInt ∧ v2197.toInt ≤ 99 := by omega
                                clear p2198
                                have hO2204 : FrO 14 a1 T I0 I2193 := hO2180.st g2196 (by decide +kernel)
                                have ov2205 := w2199.over (by rw [c2183]; omega)
                                obtain ⟨v2206, c2207⟩ : ∃ v, I2193 a0 9 = v := ⟨_, rfl⟩
                                have b2208 := iv15_9 hS2200.1 ta0 c2207
                                obtain ⟨v2209, c2210⟩ : ∃ v, I2193 a0 13 = v := ⟨_, rfl⟩
                                obtain ⟨v2211, c2212⟩ : ∃ v, I2193 a0 14 = v := ⟨_, rfl⟩
                                (try rw [c2207] at ov2205)
                                (try rw [c2210] at ov2205)
                                (try rw [c2212] at ov2205)
                                (try rw [c2183] at ov2205)
                                (try rw [c2186] at ov2205)
                                (try rw [c2188] at ov2205)
                                refine q_iast dX12_readAlp_78 (kR53 hS2200.1 ta66) (ti_in (nR53 hS2200.1 ta66) (by omega) (by omega)) hS2200 ta66 (iokF rfl) rfl (by rfl) ?_
                                intro I2213 hS2214 e2216 f2215
                                have c2217 : I2213 a1 0 = v29 := (f2215 _ _ (fun q => by have z := ta1; rw [q.1, ta66] at z; exact absurd z (by decide))).trans c2201
                                have c2218 : I2213 a1 1 = v33 := (f2215 _ _ (fun q => by have z := ta1; rw [q.1, ta66] at z; exact absurd z (by decide))).trans c2202
                                have c2219 : I2213 a0 9 = v2206 := (f2215 _ _ (fun q => by have z := ta0; rw [q.1, ta66] at z; exact absurd z (by decide))).trans c2207
                                have c2220 : I2213 a0 13 = v2209 := (f2215 _ _ (fun q => by have z := ta0; rw [q.1, ta66] at z; exact absurd z (by decide))).trans c2210
                                have c2221 : I2213 a0 14 = v2211 := (f2215 _ _ (fun q => by have z := ta0; rw [q.1, ta66] at z; exact absurd z (by decide))).trans c2212
                                have hO2222 : FrO 14 a1 T I0 I2213 := hO2204.put f2215 ta66 (Or.inl (by decide))
                                refine q_iincE dX12_readAlp_79 rfl (by decide) (by decide) (by intros; omega) ?_
                                intro v2223 h2224
                                refine tr_goto 48 dX12_readAlp_82 (by decide) ?_
                                refine tr_iload_n dX12_readAlp_48 rfl ?_
                                refine q_iconst dX12_readAlp_49 (by decide) ?_
                                intro v2225 h2226
                                refine q_icmp_ge 85 dX12_readAlp_50 (by decide) (fun h2227 => ?_) (fun h2227 => ?_)
                                · skip
                                  exfalso; omega
                                · skip
                                  refine tr_iload_n dX12_readAlp_53 rfl ?_
                                  refine q_if_le 63 dX12_readAlp_54 (by decide) (fun h2228 => ?_) (fun h2228 => ?_)
                                  · skip
                                    exfalso; omega
                                  · skip
                                    refine tr_aload_n dX12_readAlp_57 rfl ?_
                                    refine q_bipush dX12_readAlp_58 (by decide +kernel) ?_
                                    intro v2229 h2230
                                    refine q_callVv hE (M' := mX12_needsSign) (as := [_]) dX12_readAlp_60 lk12_257 inX12_needsSign seX12_needsSign myX12_needsSign (by decide) ⟨by decide, by decide⟩ rfl (kR15 hS2214.1 ta0) (Nat.le_of_ble_eq_true rfl) rfl rfl (by decide) (by decide) (k_X12_needsSign hS2214.1 ta0) ?_
                                    rintro cn' K' N' I2231 R2232 L2233 ⟨rfl, rfl, rfl, rfl, g2234, w2236, -⟩
                                    have hS2237 := hS2214.tr g2234 (by decide +kernel) (by decide +kernel)
                                    have c2238 : I2231 a1 0 = v29 := (g2234.cell ta1 (by decide +kernel)).trans c2217
                                    have c2239 : I2231 a1 1 = v33 := (g2234.cell ta1 (by decide +kernel)).trans c2218
                                    have hO2240 : FrO 14 a1 T I0 I2231 := hO2222.st g2234 (by decide +kernel)
                                    have ov2241 := w2236.over (by rw [c2219]; omega)
                                    obtain ⟨v2242, c2243⟩ : ∃ v, I2231 a0 9 = v := ⟨_, rfl⟩
                                    have b2244 := iv15_9 hS2237.1 ta0 c2243
                                    obtain ⟨v2245, c2246⟩ : ∃ v, I2231 a0 13 = v := ⟨_, rfl⟩
                                    obtain ⟨v2247, c2248⟩ : ∃ v, I2231 a0 14 = v := ⟨_, rfl⟩
                                    (try rw [c2243] at ov2241)
                                    (try rw [c2246] at ov2241)
                                    (try rw [c2248] at ov2241)
                                    (try rw [c2219] at ov2241)
                                    (try rw [c2220] at ov2241)
                                    (try rw [c2221] at ov2241)
                                    refine tr_aload_n dX12_readAlp_63 rfl ?_
                                    refine tr_getR dX12_readAlp_64 fl12_188 (kR15 hS2237.1 ta0) d2 ?_
                                    refine tr_getR dX12_readAlp_67 fl12_260 (kR14 hS2237.1 ta1) d67 ?_
                                    refine tr_iload_n dX12_readAlp_70 rfl ?_
                                    refine tr_aload_n dX12_readAlp_71 rfl ?_
                                    refine q_iconst dX12_readAlp_72 (by decide) ?_
                                    intro v2249 h2250
                                    refine q_bipush dX12_readAlp_73 (by decide +kernel) ?_
                                    intro v2251 h2252
                                    refine q_callVi hE (M' := mX12_readWhole) (as := [_, _]) dX12_readAlp_75 lk12_161 inX12_readWhole seX12_readWhole myX12_readWhole (by decide) ⟨by decide, by decide⟩ rfl (kR15 hS2237.1 ta0) (Nat.le_of_ble_eq_true rfl) rfl rfl (by decide) (by decide) (k_X12_readWhole hS2237.1 ta0) ?_
                                    rintro v2257 cn' K' N' I2253 R2254 L2255 ⟨rfl, rfl, rfl, rfl, g2256, p2258, w2259, -⟩
                                    have hS2260 := hS2237.tr g2256 (by decide +kernel) (by decide +kernel)
                                    have c2261 : I2253 a1 0 = v29 := (g2256.cell ta1 (by decide +kernel)).trans c2238
                                    have c2262 : I2253 a1 1 = v33 := (g2256.cell ta1 (by decide +kernel)).trans c2239
                                    have b2263 : 0 ≤ v2257.toInt ∧ v2257.toInt ≤ 99 := by omega
                                    clear p2258
                                    have hO2264 : FrO 14 a1 T I0 I2253 := hO2240.st g2256 (by decide +kernel)
                                    have ov2265 := w2259.over (by rw [c2243]; omega)
                                    obtain ⟨v2266, c2267⟩ : ∃ v, I2253 a0 9 = v := ⟨_, rfl⟩
                                    have b2268 := iv15_9 hS2260.1 ta0 c2267
                                    obtain ⟨v2269, c2270⟩ : ∃ v, I2253 a0 13 = v := ⟨_, rfl⟩
                                    obtain ⟨v2271, c2272⟩ : ∃ v, I2253 a0 14 = v := ⟨_, rfl⟩
                                    (try rw [c2267] at ov2265)
                                    (try rw [c2270] at ov2265)
                                    (try rw [c2272] at ov2265)
                                    (try rw [c2243] at ov2265)
                                    (try rw [c2246] at ov2265)
                                    (try rw [c2248] at ov2265)
                                    refine q_iast dX12_readAlp_78 (kR53 hS2260.1 ta66) (ti_in (nR53 hS2260.1 ta66) (by omega) (by omega)) hS2260 ta66 (iokF rfl) rfl (by rfl) ?_
                                    intro I2273 hS2274 e2276 f2275
                                    have c2277 : I2273 a1 0 = v29 := (f2275 _ _ (fun q => by have z := ta1; rw [q.1, ta66] at z; exact absurd z (by decide))).trans c2261
                                    have c2278 : I2273 a1 1 = v33 := (f2275 _ _ (fun q => by have z := ta1; rw [q.1, ta66] at z; exact absurd z (by decide))).trans c2262
                                    have c2279 : I2273 a0 9 = v2266 := (f2275 _ _ (fun q => by have z := ta0; rw [q.1, ta66] at z; exact absurd z (by decide))).trans c2267
                                    have c2280 : I2273 a0 13 = v2269 := (f2275 _ _ (fun q => by have z := ta0; rw [q.1, ta66] at z; exact absurd z (by decide))).trans c2270
                                    have c2281 : I2273 a0 14 = v2271 := (f2275 _ _ (fun q => by have z := ta0; rw [q.1, ta66] at z; exact absurd z (by decide))).trans c2272
                                    have hO2282 : FrO 14 a1 T I0 I2273 := hO2264.put f2275 ta66 (Or.inl (by decide))
                                    refine q_iincE dX12_readAlp_79 rfl (by decide) (by decide) (by intros; omega) ?_
                                    intro v2283 h2284
                                    refine tr_goto 48 dX12_readAlp_82 (by decide) ?_
                                    refine tr_iload_n dX12_readAlp_48 rfl ?_
                                    refine q_iconst dX12_readAlp_49 (by decide) ?_
                                    intro v2285 h2286
                                    refine q_icmp_ge 85 dX12_readAlp_50 (by decide) (fun h2287 => ?_) (fun h2287 => ?_)
                                    · skip
                                      refine tr_aload_n dX12_readAlp_85 rfl ?_
                                      refine q_getI dX12_readAlp_86 fl12_99 (kR15 hS2274.1 ta0) c2279 ?_
                                      refine q_iconst dX12_readAlp_89 (by decide) ?_
                                      intro v2288 h2289
                                      refine q_icmp_ne 94 dX12_readAlp_90 (by decide) (fun h2290 => ?_) (fun h2290 => ?_)
                                      · skip
                                        exfalso; omega
                                      · skip
                                        have eF := hF.eq
                                        have eP := hP.eq
                                        obtain ⟨v2291, c2292⟩ : ∃ v, I2273 a0 10 = v := ⟨_, rfl⟩
                                        have b2293 := iv15_10 hS2274.1 ta0 c2292
                                        obtain ⟨v2294, c2295⟩ : ∃ v, I2273 a0 11 = v := ⟨_, rfl⟩
                                        obtain ⟨y2296, c2297⟩ : ∃ v, L2255 a0 15 = v := ⟨_, rfl⟩
                                        obtain ⟨v2298, c2299⟩ : ∃ v, I2273 a0 12 = v := ⟨_, rfl⟩
                                        obtain ⟨v2300, c2301⟩ : ∃ v, I2273 a0 8 = v := ⟨_, rfl⟩
                                        have b2302 := iv15_8 hS2274.1 ta0 c2301
                                        exact tr_vret hZ dX12_readAlp_93 rfl (by decide) (by decide) ⟨rfl, rfl, rfl, rfl, rfl, hS2274, (fun b hb => (Option.some.inj (d2.symm.trans hb)) ▸ (((((((((((((((((((FrM.rf (R := R0) (b := a1) (T := T)).st g74 (by decide +kernel)).st g126 (by decide +kernel)).st g196 (by decide +kernel)).st g262 (by decide +kernel)).st g318 (by decide +kernel)).pu f372 (by decide) (by decide) d67).st g395 (by decide +kernel)).st g444 (by decide +kernel)).pu f2095 (by decide) (by decide) d67).st g2114 (by decide +kernel)).st g2136 (by decide +kernel)).pu f2155 (by decide) (by decide) d67).st g2174 (by decide +kernel)).st g2196 (by decide +kernel)).pu f2215 (by decide) (by decide) d67).st g2234 (by decide +kernel)).st g2256 (by decide +kernel)).pu f2275 (by decide) (by decide) d67)), (fun dr hd => (Option.some.inj (d2.symm.trans hd)) ▸ hO2282), (Or.inr (⟨(by (try rw [w109]); first | done | with_reducible assumption | omega), (by (try rw [w109]); (try rw [c2279]); first | done | with_reducible assumption | omega), (by (try rw [w109]); (try rw [c2280]); first | done | with_reducible assumption | omega), (by (try rw [w109]); (try rw [c2281]); first | done | with_reducible assumption | omega), trivial⟩)), trivial⟩
                                    · skip
                                      exfalso; omega
                    · skip
                      obtain ⟨v2303, c2304⟩ : ∃ v, I392 a0 9 = v := ⟨_, rfl⟩
                      have b2305 := iv15_9 hS400.1 ta0 c2304
                      rw [c2304] at p415
                      obtain ⟨v2306, c2307⟩ : ∃ v, I392 a0 13 = v := ⟨_, rfl⟩
                      rw [c2307] at p416
                      obtain ⟨v2308, c2309⟩ : ∃ v, I392 a0 14 = v := ⟨_, rfl⟩
                      rw [c2309] at p417
                      replace hF := hF.pos (by omega)
                      replace hP := hP.pos (by omega)
                      refine tr_aload_n dX12_readAlp_63 rfl ?_
                      refine tr_getR dX12_readAlp_64 fl12_188 (kR15 hS400.1 ta0) d2 ?_
                      refine tr_getR dX12_readAlp_67 fl12_260 (kR14 hS400.1 ta1) d67 ?_
                      refine tr_iload_n dX12_readAlp_70 rfl ?_
                      refine tr_aload_n dX12_readAlp_71 rfl ?_
                      refine q_iconst dX12_readAlp_72 (by decide) ?_
                      intro v2310 h2311
                      refine q_bipush dX12_readAlp_73 (by decide +kernel) ?_
                      intro v2312 h2313
                      refine q_callVi hE (M' := mX12_readWhole) (as := [_, _]) dX12_readAlp_75 lk12_161 inX12_readWhole seX12_readWhole myX12_readWhole (by decide) ⟨by decide, by decide⟩ rfl (kR15 hS400.1 ta0) (Nat.le_of_ble_eq_true rfl) rfl rfl (by decide) (by decide) (k_X12_readWhole hS400.1 ta0) ?_
                      rintro v2318 cn' K' N' I2314 R2315 L2316 ⟨rfl, rfl, rfl, rfl, g2317, p2319, w2320, -⟩
                      have hS2321 := hS400.tr g2317 (by decide +kernel) (by decide +kernel)
                      have c2322 : I2314 a1 0 = v29 := (g2317.cell ta1 (by decide +kernel)).trans c401
                      have c2323 : I2314 a1 1 = v33 := (g2317.cell ta1 (by decide +kernel)).trans c402
                      have b2324 : 0 ≤ v2318.toInt ∧ v2318.toInt ≤ 99 := by omega
                      clear p2319
                      have hO2325 : FrO 14 a1 T I0 I2314 := hO403.st g2317 (by decide +kernel)
                      have ov2326 := w2320.over (by rw [c2304]; omega)
                      obtain ⟨v2327, c2328⟩ : ∃ v, I2314 a0 9 = v := ⟨_, rfl⟩
                      have b2329 := iv15_9 hS2321.1 ta0 c2328
                      obtain ⟨v2330, c2331⟩ : ∃ v, I2314 a0 13 = v := ⟨_, rfl⟩
                      obtain ⟨v2332, c2333⟩ : ∃ v, I2314 a0 14 = v := ⟨_, rfl⟩
                      (try rw [c2328] at ov2326)
                      (try rw [c2331] at ov2326)
                      (try rw [c2333] at ov2326)
                      (try rw [c2304] at ov2326)
                      (try rw [c2307] at ov2326)
                      (try rw [c2309] at ov2326)
                      refine q_iast dX12_readAlp_78 (kR53 hS2321.1 ta66) (ti_in (nR53 hS2321.1 ta66) (by omega) (by omega)) hS2321 ta66 (iokF rfl) rfl (by rfl) ?_
                      intro I2334 hS2335 e2337 f2336
                      have c2338 : I2334 a1 0 = v29 := (f2336 _ _ (fun q => by have z := ta1; rw [q.1, ta66] at z; exact absurd z (by decide))).trans c2322
                      have c2339 : I2334 a1 1 = v33 := (f2336 _ _ (fun q => by have z := ta1; rw [q.1, ta66] at z; exact absurd z (by decide))).trans c2323
                      have c2340 : I2334 a0 9 = v2327 := (f2336 _ _ (fun q => by have z := ta0; rw [q.1, ta66] at z; exact absurd z (by decide))).trans c2328
                      have c2341 : I2334 a0 13 = v2330 := (f2336 _ _ (fun q => by have z := ta0; rw [q.1, ta66] at z; exact absurd z (by decide))).trans c2331
                      have c2342 : I2334 a0 14 = v2332 := (f2336 _ _ (fun q => by have z := ta0; rw [q.1, ta66] at z; exact absurd z (by decide))).trans c2333
                      have hO2343 : FrO 14 a1 T I0 I2334 := hO2325.put f2336 ta66 (Or.inl (by decide))
                      refine q_iincE dX12_readAlp_79 rfl (by decide) (by decide) (by intros; omega) ?_
                      intro v2344 h2345
                      refine tr_goto 48 dX12_readAlp_82 (by decide) ?_
                      refine tr_iload_n dX12_readAlp_48 rfl ?_
                      refine q_iconst dX12_readAlp_49 (by decide) ?_
                      intro v2346 h2347
                      refine q_icmp_ge 85 dX12_readAlp_50 (by decide) (fun h2348 => ?_) (fun h2348 => ?_)
                      · skip
                        exfalso; omega
                      · skip
                        refine tr_iload_n dX12_readAlp_53 rfl ?_
                        refine q_if_le 63 dX12_readAlp_54 (by decide) (fun h2349 => ?_) (fun h2349 => ?_)
                        · skip
                          exfalso; omega
                        · skip
                          refine tr_aload_n dX12_readAlp_57 rfl ?_
                          refine q_bipush dX12_readAlp_58 (by decide +kernel) ?_
                          intro v2350 h2351
                          refine q_callVv hE (M' := mX12_needsSign) (as := [_]) dX12_readAlp_60 lk12_257 inX12_needsSign seX12_needsSign myX12_needsSign (by decide) ⟨by decide, by decide⟩ rfl (kR15 hS2335.1 ta0) (Nat.le_of_ble_eq_true rfl) rfl rfl (by decide) (by decide) (k_X12_needsSign hS2335.1 ta0) ?_
                          rintro cn' K' N' I2352 R2353 L2354 ⟨rfl, rfl, rfl, rfl, g2355, w2357, -⟩
                          have hS2358 := hS2335.tr g2355 (by decide +kernel) (by decide +kernel)
                          have c2359 : I2352 a1 0 = v29 := (g2355.cell ta1 (by decide +kernel)).trans c2338
                          have c2360 : I2352 a1 1 = v33 := (g2355.cell ta1 (by decide +kernel)).trans c2339
                          have hO2361 : FrO 14 a1 T I0 I2352 := hO2343.st g2355 (by decide +kernel)
                          have ov2362 := w2357.over (by rw [c2340]; omega)
                          obtain ⟨v2363, c2364⟩ : ∃ v, I2352 a0 9 = v := ⟨_, rfl⟩
                          have b2365 := iv15_9 hS2358.1 ta0 c2364
                          obtain ⟨v2366, c2367⟩ : ∃ v, I2352 a0 13 = v := ⟨_, rfl⟩
                          obtain ⟨v2368, c2369⟩ : ∃ v, I2352 a0 14 = v := ⟨_, rfl⟩
                          (try rw [c2364] at ov2362)
                          (try rw [c2367] at ov2362)
                          (try rw [c2369] at ov2362)
                          (try rw [c2340] at ov2362)
                          (try rw [c2341] at ov2362)
                          (try rw [c2342] at ov2362)
                          refine tr_aload_n dX12_readAlp_63 rfl ?_
                          refine tr_getR dX12_readAlp_64 fl12_188 (kR15 hS2358.1 ta0) d2 ?_
                          refine tr_getR dX12_readAlp_67 fl12_260 (kR14 hS2358.1 ta1) d67 ?_
                          refine tr_iload_n dX12_readAlp_70 rfl ?_
                          refine tr_aload_n dX12_readAlp_71 rfl ?_
                          refine q_iconst dX12_readAlp_72 (by decide) ?_
                          intro v2370 h2371
                          refine q_bipush dX12_readAlp_73 (by decide +kernel) ?_
                          intro v2372 h2373
                          refine q_callVi hE (M' := mX12_readWhole) (as := [_, _]) dX12_readAlp_75 lk12_161 inX12_readWhole seX12_readWhole myX12_readWhole (by decide) ⟨by decide, by decide⟩ rfl (kR15 hS2358.1 ta0) (Nat.le_of_ble_eq_true rfl) rfl rfl (by decide) (by decide) (k_X12_readWhole hS2358.1 ta0) ?_
                          rintro v2378 cn' K' N' I2374 R2375 L2376 ⟨rfl, rfl, rfl, rfl, g2377, p2379, w2380, -⟩
                          have hS2381 := hS2358.tr g2377 (by decide +kernel) (by decide +kernel)
                          have c2382 : I2374 a1 0 = v29 := (g2377.cell ta1 (by decide +kernel)).trans c2359
                          have c2383 : I2374 a1 1 = v33 := (g2377.cell ta1 (by decide +kernel)).trans c2360
                          have b2384 : 0 ≤ v2378.toInt ∧ v2378.toInt ≤ 99 := by omega
                          clear p2379
                          have hO2385 : FrO 14 a1 T I0 I2374 := hO2361.st g2377 (by decide +kernel)
                          have ov2386 := w2380.over (by rw [c2364]; omega)
                          obtain ⟨v2387, c2388⟩ : ∃ v, I2374 a0 9 = v := ⟨_, rfl⟩
                          have b2389 := iv15_9 hS2381.1 ta0 c2388
                          obtain ⟨v2390, c2391⟩ : ∃ v, I2374 a0 13 = v := ⟨_, rfl⟩
                          obtain ⟨v2392, c2393⟩ : ∃ v, I2374 a0 14 = v := ⟨_, rfl⟩
                          (try rw [c2388] at ov2386)
                          (try rw [c2391] at ov2386)
                          (try rw [c2393] at ov2386)
                          (try rw [c2364] at ov2386)
                          (try rw [c2367] at ov2386)
                          (try rw [c2369] at ov2386)
                          refine q_iast dX12_readAlp_78 (kR53 hS2381.1 ta66) (ti_in (nR53 hS2381.1 ta66) (by omega) (by omega)) hS2381 ta66 (iokF rfl) rfl (by rfl) ?_
                          intro I2394 hS2395 e2397 f2396
                          have c2398 : I2394 a1 0 = v29 := (f2396 _ _ (fun q => by have z := ta1; rw [q.1, ta66] at z; exact absurd z (by decide))).trans c2382
                          have c2399 : I2394 a1 1 = v33 := (f2396 _ _ (fun q => by have z := ta1; rw [q.1, ta66] at z; exact absurd z (by decide))).trans c2383
                          have c2400 : I2394 a0 9 = v2387 := (f2396 _ _ (fun q => by have z := ta0; rw [q.1, ta66] at z; exact absurd z (by decide))).trans c2388
                          have c2401 : I2394 a0 13 = v2390 := (f2396 _ _ (fun q => by have z := ta0; rw [q.1, ta66] at z; exact absurd z (by decide))).trans c2391
                          have c2402 : I2394 a0 14 = v2392 := (f2396 _ _ (fun q => by have z := ta0; rw [q.1, ta66] at z; exact absurd z (by decide))).trans c2393
                          have hO2403 : FrO 14 a1 T I0 I2394 := hO2385.put f2396 ta66 (Or.inl (by decide))
                          refine q_iincE dX12_readAlp_79 rfl (by decide) (by decide) (by intros; omega) ?_
                          intro v2404 h2405
                          refine tr_goto 48 dX12_readAlp_82 (by decide) ?_
                          refine tr_iload_n dX12_readAlp_48 rfl ?_
                          refine q_iconst dX12_readAlp_49 (by decide) ?_
                          intro v2406 h2407
                          refine q_icmp_ge 85 dX12_readAlp_50 (by decide) (fun h2408 => ?_) (fun h2408 => ?_)
                          · skip
                            exfalso; omega
                          · skip
                            refine tr_iload_n dX12_readAlp_53 rfl ?_
                            refine q_if_le 63 dX12_readAlp_54 (by decide) (fun h2409 => ?_) (fun h2409 => ?_)
                            · skip
                              exfalso; omega
                            · skip
                              refine tr_aload_n dX12_readAlp_57 rfl ?_
                              refine q_bipush dX12_readAlp_58 (by decide +kernel) ?_
                              intro v2410 h2411
                              refine q_callVv hE (M' := mX12_needsSign) (as := [_]) dX12_readAlp_60 lk12_257 inX12_needsSign seX12_needsSign myX12_needsSign (by decide) ⟨by decide, by decide⟩ rfl (kR15 hS2395.1 ta0) (Nat.le_of_ble_eq_true rfl) rfl rfl (by decide) (by decide) (k_X12_needsSign hS2395.1 ta0) ?_
                              rintro cn' K' N' I2412 R2413 L2414 ⟨rfl, rfl, rfl, rfl, g2415, w2417, -⟩
                              have hS2418 := hS2395.tr g2415 (by decide +kernel) (by decide +kernel)
                              have c2419 : I2412 a1 0 = v29 := (g2415.cell ta1 (by decide +kernel)).trans c2398
                              have c2420 : I2412 a1 1 = v33 := (g2415.cell ta1 (by decide +kernel)).trans c2399
                              have hO2421 : FrO 14 a1 T I0 I2412 := hO2403.st g2415 (by decide +kernel)
                              have ov2422 := w2417.over (by rw [c2400]; omega)
                              obtain ⟨v2423, c2424⟩ : ∃ v, I2412 a0 9 = v := ⟨_, rfl⟩
                              have b2425 := iv15_9 hS2418.1 ta0 c2424
                              obtain ⟨v2426, c2427⟩ : ∃ v, I2412 a0 13 = v := ⟨_, rfl⟩
                              obtain ⟨v2428, c2429⟩ : ∃ v, I2412 a0 14 = v := ⟨_, rfl⟩
                              (try rw [c2424] at ov2422)
                              (try rw [c2427] at ov2422)
                              (try rw [c2429] at ov2422)
                              (try rw [c2400] at ov2422)
                              (try rw [c2401] at ov2422)
                              (try rw [c2402] at ov2422)
                              refine tr_aload_n dX12_readAlp_63 rfl ?_
                              refine tr_getR dX12_readAlp_64 fl12_188 (kR15 hS2418.1 ta0) d2 ?_
                              refine tr_getR dX12_readAlp_67 fl12_260 (kR14 hS2418.1 ta1) d67 ?_
                              refine tr_iload_n dX12_readAlp_70 rfl ?_
                              refine tr_aload_n dX12_readAlp_71 rfl ?_
                              refine q_iconst dX12_readAlp_72 (by decide) ?_
                              intro v2430 h2431
                              refine q_bipush dX12_readAlp_73 (by decide +kernel) ?_
                              intro v2432 h2433
                              refine q_callVi hE (M' := mX12_readWhole) (as := [_, _]) dX12_readAlp_75 lk12_161 inX12_readWhole seX12_readWhole myX12_readWhole (by decide) ⟨by decide, by decide⟩ rfl (kR15 hS2418.1 ta0) (Nat.le_of_ble_eq_true rfl) rfl rfl (by decide) (by decide) (k_X12_readWhole hS2418.1 ta0) ?_
                              rintro v2438 cn' K' N' I2434 R2435 L2436 ⟨rfl, rfl, rfl, rfl, g2437, p2439, w2440, -⟩
                              have hS2441 := hS2418.tr g2437 (by decide +kernel) (by decide +kernel)
                              have c2442 : I2434 a1 0 = v29 := (g2437.cell ta1 (by decide +kernel)).trans c2419
                              have c2443 : I2434 a1 1 = v33 := (g2437.cell ta1 (by decide +kernel)).trans c2420
                              have b2444 : 0 ≤ v2438.toInt ∧ v2438.toInt ≤ 99 := by omega
                              clear p2439
                              have hO2445 : FrO 14 a1 T I0 I2434 := hO2421.st g2437 (by decide +kernel)
                              have ov2446 := w2440.over (by rw [c2424]; omega)
                              obtain ⟨v2447, c2448⟩ : ∃ v, I2434 a0 9 = v := ⟨_, rfl⟩
                              have b2449 := iv15_9 hS2441.1 ta0 c2448
                              obtain ⟨v2450, c2451⟩ : ∃ v, I2434 a0 13 = v := ⟨_, rfl⟩
                              obtain ⟨v2452, c2453⟩ : ∃ v, I2434 a0 14 = v := ⟨_, rfl⟩
                              (try rw [c2448] at ov2446)
                              (try rw [c2451] at ov2446)
                              (try rw [c2453] at ov2446)
                              (try rw [c2424] at ov2446)
                              (try rw [c2427] at ov2446)
                              (try rw [c2429] at ov2446)
                              refine q_iast dX12_readAlp_78 (kR53 hS2441.1 ta66) (ti_in (nR53 hS2441.1 ta66) (by omega) (by omega)) hS2441 ta66 (iokF rfl) rfl (by rfl) ?_
                              intro I2454 hS2455 e2457 f2456
                              have c2458 : I2454 a1 0 = v29 := (f2456 _ _ (fun q => by have z := ta1; rw [q.1, ta66] at z; exact absurd z (by decide))).trans c2442
                              have c2459 : I2454 a1 1 = v33 := (f2456 _ _ (fun q => by have z := ta1; rw [q.1, ta66] at z; exact absurd z (by decide))).trans c2443
                              have c2460 : I2454 a0 9 = v2447 := (f2456 _ _ (fun q => by have z := ta0; rw [q.1, ta66] at z; exact absurd z (by decide))).trans c2448
                              have c2461 : I2454 a0 13 = v2450 := (f2456 _ _ (fun q => by have z := ta0; rw [q.1, ta66] at z; exact absurd z (by decide))).trans c2451
                              have c2462 : I2454 a0 14 = v2452 := (f2456 _ _ (fun q => by have z := ta0; rw [q.1, ta66] at z; exact absurd z (by decide))).trans c2453
                              have hO2463 : FrO 14 a1 T I0 I2454 := hO2445.put f2456 ta66 (Or.inl (by decide))
                              refine q_iincE dX12_readAlp_79 rfl (by decide) (by decide) (by intros; omega) ?_
                              intro v2464 h2465
                              refine tr_goto 48 dX12_readAlp_82 (by decide) ?_
                              refine tr_iload_n dX12_readAlp_48 rfl ?_
                              refine q_iconst dX12_readAlp_49 (by decide) ?_
                              intro v2466 h2467
                              refine q_icmp_ge 85 dX12_readAlp_50 (by decide) (fun h2468 => ?_) (fun h2468 => ?_)
                              · skip
                                exfalso; omega
                              · skip
                                refine tr_iload_n dX12_readAlp_53 rfl ?_
                                refine q_if_le 63 dX12_readAlp_54 (by decide) (fun h2469 => ?_) (fun h2469 => ?_)
                                · skip
                                  exfalso; omega
                                · skip
                                  refine tr_aload_n dX12_readAlp_57 rfl ?_
                                  refine q_bipush dX12_readAlp_58 (by decide +kernel) ?_
                                  intro v2470 h2471
                                  refine q_callVv hE (M' := mX12_needsSign) (as := [_]) dX12_readAlp_60 lk12_257 inX12_needsSign seX12_needsSign myX12_needsSign (by decide) ⟨by decide, by decide⟩ rfl (kR15 hS2455.1 ta0) (Nat.le_of_ble_eq_true rfl) rfl rfl (by decide) (by decide) (k_X12_needsSign hS2455.1 ta0) ?_
                                  rintro cn' K' N' I2472 R2473 L2474 ⟨rfl, rfl, rfl, rfl, g2475, w2477, -⟩
                                  have hS2478 := hS2455.tr g2475 (by decide +kernel) (by decide +kernel)
                                  have c2479 : I2472 a1 0 = v29 := (g2475.cell ta1 (by decide +kernel)).trans c2458
                                  have c2480 : I2472 a1 1 = v33 := (g2475.cell ta1 (by decide +kernel)).trans c2459
                                  have hO2481 : FrO 14 a1 T I0 I2472 := hO2463.st g2475 (by decide +kernel)
                                  have ov2482 := w2477.over (by rw [c2460]; omega)
                                  obtain ⟨v2483, c2484⟩ : ∃ v, I2472 a0 9 = v := ⟨_, rfl⟩
                                  have b2485 := iv15_9 hS2478.1 ta0 c2484
                                  obtain ⟨v2486, c2487⟩ : ∃ v, I2472 a0 13 = v := ⟨_, rfl⟩
                                  obtain ⟨v2488, c2489⟩ : ∃ v, I2472 a0 14 = v := ⟨_, rfl⟩
                                  (try rw [c2484] at ov2482)
                                  (try rw [c2487] at ov2482)
                                  (try rw [c2489] at ov2482)
                                  (try rw [c2460] at ov2482)
                                  (try rw [c2461] at ov2482)
                                  (try rw [c2462] at ov2482)
                                  refine tr_aload_n dX12_readAlp_63 rfl ?_
                                  refine tr_getR dX12_readAlp_64 fl12_188 (kR15 hS2478.1 ta0) d2 ?_
                                  refine tr_getR dX12_readAlp_67 fl12_260 (kR14 hS2478.1 ta1) d67 ?_
                                  refine tr_iload_n dX12_readAlp_70 rfl ?_
                                  refine tr_aload_n dX12_readAlp_71 rfl ?_
                                  refine q_iconst dX12_readAlp_72 (by decide) ?_
                                  intro v2490 h2491
                                  refine q_bipush dX12_readAlp_73 (by decide +kernel) ?_
                                  intro v2492 h2493
                                  refine q_callVi hE (M' := mX12_readWhole) (as := [_, _]) dX12_readAlp_75 lk12_161 inX12_readWhole seX12_readWhole myX12_readWhole (by decide) ⟨by decide, by decide⟩ rfl (kR15 hS2478.1 ta0) (Nat.le_of_ble_eq_true rfl) rfl rfl (by decide) (by decide) (k_X12_readWhole hS2478.1 ta0) ?_
                                  rintro v2498 cn' K' N' I2494 R2495 L2496 ⟨rfl, rfl, rfl, rfl, g2497, p2499, w2500, -⟩
                                  have hS2501 := hS2478.tr g2497 (by decide +kernel) (by decide +kernel)
                                  have c2502 : I2494 a1 0 = v29 := (g2497.cell ta1 (by decide +kernel)).trans c2479
                                  have c2503 : I2494 a1 1 = v33 := (g2497.cell ta1 (by decide +kernel)).trans c2480
                                  have b2504 : 0 ≤ v2498.toInt ∧ v2498.toInt ≤ 99 := by omega
                                  clear p2499
                                  have hO2505 : FrO 14 a1 T I0 I2494 := hO2481.st g2497 (by decide +kernel)
                                  have ov2506 := w2500.over (by rw [c2484]; omega)
                                  obtain ⟨v2507, c2508⟩ : ∃ v, I2494 a0 9 = v := ⟨_, rfl⟩
                                  have b2509 := iv15_9 hS2501.1 ta0 c2508
                                  obtain ⟨v2510, c2511⟩ : ∃ v, I2494 a0 13 = v := ⟨_, rfl⟩
                                  obtain ⟨v2512, c2513⟩ : ∃ v, I2494 a0 14 = v := ⟨_, rfl⟩
                                  (try rw [c2508] at ov2506)
                                  (try rw [c2511] at ov2506)
                                  (try rw [c2513] at ov2506)
                                  (try rw [c2484] at ov2506)
                                  (try rw [c2487] at ov2506)
                                  (try rw [c2489] at ov2506)
                                  refine q_iast dX12_readAlp_78 (kR53 hS2501.1 ta66) (ti_in (nR53 hS2501.1 ta66) (by omega) (by omega)) hS2501 ta66 (iokF rfl) rfl (by rfl) ?_
                                  intro I2514 hS2515 e2517 f2516
                                  have c2518 : I2514 a1 0 = v29 := (f2516 _ _ (fun q => by have z := ta1; rw [q.1, ta66] at z; exact absurd z (by decide))).trans c2502
                                  have c2519 : I2514 a1 1 = v33 := (f2516 _ _ (fun q => by have z := ta1; rw [q.1, ta66] at z; exact absurd z (by decide))).trans c2503
                                  have c2520 : I2514 a0 9 = v2507 := (f2516 _ _ (fun q => by have z := ta0; rw [q.1, ta66] at z; exact absurd z (by decide))).trans c2508
                                  have c2521 : I2514 a0 13 = v2510 := (f2516 _ _ (fun q => by have z := ta0; rw [q.1, ta66] at z; exact absurd z (by decide))).trans c2511
                                  have c2522 : I2514 a0 14 = v2512 := (f2516 _ _ (fun q => by have z := ta0; rw [q.1, ta66] at z; exact absurd z (by decide))).trans c2513
                                  have hO2523 : FrO 14 a1 T I0 I2514 := hO2505.put f2516 ta66 (Or.inl (by decide))
                                  refine q_iincE dX12_readAlp_79 rfl (by decide) (by decide) (by intros; omega) ?_
                                  intro v2524 h2525
                                  refine tr_goto 48 dX12_readAlp_82 (by decide) ?_
                                  refine tr_iload_n dX12_readAlp_48 rfl ?_
                                  refine q_iconst dX12_readAlp_49 (by decide) ?_
                                  intro v2526 h2527
                                  refine q_icmp_ge 85 dX12_readAlp_50 (by decide) (fun h2528 => ?_) (fun h2528 => ?_)
                                  · skip
                                    refine tr_aload_n dX12_readAlp_85 rfl ?_
                                    refine q_getI dX12_readAlp_86 fl12_99 (kR15 hS2515.1 ta0) c2520 ?_
                                    refine q_iconst dX12_readAlp_89 (by decide) ?_
                                    intro v2529 h2530
                                    refine q_icmp_ne 94 dX12_readAlp_90 (by decide) (fun h2531 => ?_) (fun h2531 => ?_)
                                    · skip
                                      exfalso; omega
                                    · skip
                                      have eF := hF.eq
                                      have eP := hP.eq
                                      obtain ⟨v2532, c2533⟩ : ∃ v, I2514 a0 10 = v := ⟨_, rfl⟩
                                      have b2534 := iv15_10 hS2515.1 ta0 c2533
                                      obtain ⟨v2535, c2536⟩ : ∃ v, I2514 a0 11 = v := ⟨_, rfl⟩
                                      obtain ⟨y2537, c2538⟩ : ∃ v, L2496 a0 15 = v := ⟨_, rfl⟩
                                      obtain ⟨v2539, c2540⟩ : ∃ v, I2514 a0 12 = v := ⟨_, rfl⟩
                                      obtain ⟨v2541, c2542⟩ : ∃ v, I2514 a0 8 = v := ⟨_, rfl⟩
                                      have b2543 := iv15_8 hS2515.1 ta0 c2542
                                      exact tr_vret hZ dX12_readAlp_93 rfl (by decide) (by decide) ⟨rfl, rfl, rfl, rfl, rfl, hS2515, (fun b hb => (Option.some.inj (d2.symm.trans hb)) ▸ (((((((((((((((((((FrM.rf (R := R0) (b := a1) (T := T)).st g74 (by decide +kernel)).st g126 (by decide +kernel)).st g196 (by decide +kernel)).st g262 (by decide +kernel)).st g318 (by decide +kernel)).pu f372 (by decide) (by decide) d67).st g395 (by decide +kernel)).st g2317 (by decide +kernel)).pu f2336 (by decide) (by decide) d67).st g2355 (by decide +kernel)).st g2377 (by decide +kernel)).pu f2396 (by decide) (by decide) d67).st g2415 (by decide +kernel)).st g2437 (by decide +kernel)).pu f2456 (by decide) (by decide) d67).st g2475 (by decide +kernel)).st g2497 (by decide +kernel)).pu f2516 (by decide) (by decide) d67)), (fun dr hd => (Option.some.inj (d2.symm.trans hd)) ▸ hO2523), (Or.inr (⟨(by (try rw [w109]); first | done | with_reducible assumption | omega), (by (try rw [w109]); (try rw [c2520]); first | done | with_reducible assumption | omega), (by (try rw [w109]); (try rw [c2521]); first | done | with_reducible assumption | omega), (by (try rw [w109]); (try rw [c2522]); first | done | with_reducible assumption | omega), trivial⟩)), trivial⟩
                                  · skip
                                    exfalso; omega
              · skip
                obtain ⟨v2544, c2545⟩ : ∃ v, I315 a0 9 = v := ⟨_, rfl⟩
                have b2546 := iv15_9 hS323.1 ta0 c2545
                rw [c2545] at p342
                obtain ⟨v2547, c2548⟩ : ∃ v, I315 a0 13 = v := ⟨_, rfl⟩
                rw [c2548] at p343
                obtain ⟨v2549, c2550⟩ : ∃ v, I315 a0 14 = v := ⟨_, rfl⟩
                rw [c2550] at p344
                replace hF := hF.pos (by omega)
                replace hP := hP.pos (by omega)
                refine q_iast dX12_readAlp_78 (kR53 hS323.1 ta66) (ti_in (nR53 hS323.1 ta66) (by omega) (by omega)) hS323 ta66 (iokF rfl) rfl (by rfl) ?_
                intro I2551 hS2552 e2554 f2553
                have c2555 : I2551 a1 0 = v29 := (f2553 _ _ (fun q => by have z := ta1; rw [q.1, ta66] at z; exact absurd z (by decide))).trans c324
                have c2556 : I2551 a1 1 = v33 := (f2553 _ _ (fun q => by have z := ta1; rw [q.1, ta66] at z; exact absurd z (by decide))).trans c325
                have c2557 : I2551 a0 9 = v2544 := (f2553 _ _ (fun q => by have z := ta0; rw [q.1, ta66] at z; exact absurd z (by decide))).trans c2545
                have c2558 : I2551 a0 13 = v2547 := (f2553 _ _ (fun q => by have z := ta0; rw [q.1, ta66] at z; exact absurd z (by decide))).trans c2548
                have c2559 : I2551 a0 14 = v2549 := (f2553 _ _ (fun q => by have z := ta0; rw [q.1, ta66] at z; exact absurd z (by decide))).trans c2550
                have hO2560 : FrO 14 a1 T I0 I2551 := hO326.put f2553 ta66 (Or.inl (by decide))
                refine q_iincE dX12_readAlp_79 rfl (by decide) (by decide) (by intros; omega) ?_
                intro v2561 h2562
                refine tr_goto 48 dX12_readAlp_82 (by decide) ?_
                refine tr_iload_n dX12_readAlp_48 rfl ?_
                refine q_iconst dX12_readAlp_49 (by decide) ?_
                intro v2563 h2564
                refine q_icmp_ge 85 dX12_readAlp_50 (by decide) (fun h2565 => ?_) (fun h2565 => ?_)
                · skip
                  exfalso; omega
                · skip
                  refine tr_iload_n dX12_readAlp_53 rfl ?_
                  refine q_if_le 63 dX12_readAlp_54 (by decide) (fun h2566 => ?_) (fun h2566 => ?_)
                  · skip
                    exfalso; omega
                  · skip
                    refine tr_aload_n dX12_readAlp_57 rfl ?_
                    refine q_bipush dX12_readAlp_58 (by decide +kernel) ?_
                    intro v2567 h2568
                    refine q_callVv hE (M' := mX12_needsSign) (as := [_]) dX12_readAlp_60 lk12_257 inX12_needsSign seX12_needsSign myX12_needsSign (by decide) ⟨by decide, by decide⟩ rfl (kR15 hS2552.1 ta0) (Nat.le_of_ble_eq_true rfl) rfl rfl (by decide) (by decide) (k_X12_needsSign hS2552.1 ta0) ?_
                    rintro cn' K' N' I2569 R2570 L2571 ⟨rfl, rfl, rfl, rfl, g2572, w2574, -⟩
                    have hS2575 := hS2552.tr g2572 (by decide +kernel) (by decide +kernel)
                    have c2576 : I2569 a1 0 = v29 := (g2572.cell ta1 (by decide +kernel)).trans c2555
                    have c2577 : I2569 a1 1 = v33 := (g2572.cell ta1 (by decide +kernel)).trans c2556
                    have hO2578 : FrO 14 a1 T I0 I2569 := hO2560.st g2572 (by decide +kernel)
                    have ov2579 := w2574.over (by rw [c2557]; omega)
                    obtain ⟨v2580, c2581⟩ : ∃ v, I2569 a0 9 = v := ⟨_, rfl⟩
                    have b2582 := iv15_9 hS2575.1 ta0 c2581
                    obtain ⟨v2583, c2584⟩ : ∃ v, I2569 a0 13 = v := ⟨_, rfl⟩
                    obtain ⟨v2585, c2586⟩ : ∃ v, I2569 a0 14 = v := ⟨_, rfl⟩
                    (try rw [c2581] at ov2579)
                    (try rw [c2584] at ov2579)
                    (try rw [c2586] at ov2579)
                    (try rw [c2557] at ov2579)
                    (try rw [c2558] at ov2579)
                    (try rw [c2559] at ov2579)
                    refine tr_aload_n dX12_readAlp_63 rfl ?_
                    refine tr_getR dX12_readAlp_64 fl12_188 (kR15 hS2575.1 ta0) d2 ?_
                    refine tr_getR dX12_readAlp_67 fl12_260 (kR14 hS2575.1 ta1) d67 ?_
                    refine tr_iload_n dX12_readAlp_70 rfl ?_
                    refine tr_aload_n dX12_readAlp_71 rfl ?_
                    refine q_iconst dX12_readAlp_72 (by decide) ?_
                    intro v2587 h2588
                    refine q_bipush dX12_readAlp_73 (by decide +kernel) ?_
                    intro v2589 h2590
                    refine q_callVi hE (M' := mX12_readWhole) (as := [_, _]) dX12_readAlp_75 lk12_161 inX12_readWhole seX12_readWhole myX12_readWhole (by decide) ⟨by decide, by decide⟩ rfl (kR15 hS2575.1 ta0) (Nat.le_of_ble_eq_true rfl) rfl rfl (by decide) (by decide) (k_X12_readWhole hS2575.1 ta0) ?_
                    rintro v2595 cn' K' N' I2591 R2592 L2593 ⟨rfl, rfl, rfl, rfl, g2594, p2596, w2597, -⟩
                    have hS2598 := hS2575.tr g2594 (by decide +kernel) (by decide +kernel)
                    have c2599 : I2591 a1 0 = v29 := (g2594.cell ta1 (by decide +kernel)).trans c2576
                    have c2600 : I2591 a1 1 = v33 := (g2594.cell ta1 (by decide +kernel)).trans c2577
                    have b2601 : 0 ≤ v2595.toInt ∧ v2595.toInt ≤ 99 := by omega
                    clear p2596
                    have hO2602 : FrO 14 a1 T I0 I2591 := hO2578.st g2594 (by decide +kernel)
                    have ov2603 := w2597.over (by rw [c2581]; omega)
                    obtain ⟨v2604, c2605⟩ : ∃ v, I2591 a0 9 = v := ⟨_, rfl⟩
                    have b2606 := iv15_9 hS2598.1 ta0 c2605
                    obtain ⟨v2607, c2608⟩ : ∃ v, I2591 a0 13 = v := ⟨_, rfl⟩
                    obtain ⟨v2609, c2610⟩ : ∃ v, I2591 a0 14 = v := ⟨_, rfl⟩
                    (try rw [c2605] at ov2603)
                    (try rw [c2608] at ov2603)
                    (try rw [c2610] at ov2603)
                    (try rw [c2581] at ov2603)
                    (try rw [c2584] at ov2603)
                    (try rw [c2586] at ov2603)
                    refine q_iast dX12_readAlp_78 (kR53 hS2598.1 ta66) (ti_in (nR53 hS2598.1 ta66) (by omega) (by omega)) hS2598 ta66 (iokF rfl) rfl (by rfl) ?_
                    intro I2611 hS2612 e2614 f2613
                    have c2615 : I2611 a1 0 = v29 := (f2613 _ _ (fun q => by have z := ta1; rw [q.1, ta66] at z; exact absurd z (by decide))).trans c2599
                    have c2616 : I2611 a1 1 = v33 := (f2613 _ _ (fun q => by have z := ta1; rw [q.1, ta66] at z; exact absurd z (by decide))).trans c2600
                    have c2617 : I2611 a0 9 = v2604 := (f2613 _ _ (fun q => by have z := ta0; rw [q.1, ta66] at z; exact absurd z (by decide))).trans c2605
                    have c2618 : I2611 a0 13 = v2607 := (f2613 _ _ (fun q => by have z := ta0; rw [q.1, ta66] at z; exact absurd z (by decide))).trans c2608
                    have c2619 : I2611 a0 14 = v2609 := (f2613 _ _ (fun q => by have z := ta0; rw [q.1, ta66] at z; exact absurd z (by decide))).trans c2610
                    have hO2620 : FrO 14 a1 T I0 I2611 := hO2602.put f2613 ta66 (Or.inl (by decide))
                    refine q_iincE dX12_readAlp_79 rfl (by decide) (by decide) (by intros; omega) ?_
                    intro v2621 h2622
                    refine tr_goto 48 dX12_readAlp_82 (by decide) ?_
                    refine tr_iload_n dX12_readAlp_48 rfl ?_
                    refine q_iconst dX12_readAlp_49 (by decide) ?_
                    intro v2623 h2624
                    refine q_icmp_ge 85 dX12_readAlp_50 (by decide) (fun h2625 => ?_) (fun h2625 => ?_)
                    · skip
                      exfalso; omega
                    · skip
                      refine tr_iload_n dX12_readAlp_53 rfl ?_
                      refine q_if_le 63 dX12_readAlp_54 (by decide) (fun h2626 => ?_) (fun h2626 => ?_)
                      · skip
                        exfalso; omega
                      · skip
                        refine tr_aload_n dX12_readAlp_57 rfl ?_
                        refine q_bipush dX12_readAlp_58 (by decide +kernel) ?_
                        intro v2627 h2628
                        refine q_callVv hE (M' := mX12_needsSign) (as := [_]) dX12_readAlp_60 lk12_257 inX12_needsSign seX12_needsSign myX12_needsSign (by decide) ⟨by decide, by decide⟩ rfl (kR15 hS2612.1 ta0) (Nat.le_of_ble_eq_true rfl) rfl rfl (by decide) (by decide) (k_X12_needsSign hS2612.1 ta0) ?_
                        rintro cn' K' N' I2629 R2630 L2631 ⟨rfl, rfl, rfl, rfl, g2632, w2634, -⟩
                        have hS2635 := hS2612.tr g2632 (by decide +kernel) (by decide +kernel)
                        have c2636 : I2629 a1 0 = v29 := (g2632.cell ta1 (by decide +kernel)).trans c2615
                        have c2637 : I2629 a1 1 = v33 := (g2632.cell ta1 (by decide +kernel)).trans c2616
                        have hO2638 : FrO 14 a1 T I0 I2629 := hO2620.st g2632 (by decide +kernel)
                        have ov2639 := w2634.over (by rw [c2617]; omega)
                        obtain ⟨v2640, c2641⟩ : ∃ v, I2629 a0 9 = v := ⟨_, rfl⟩
                        have b2642 := iv15_9 hS2635.1 ta0 c2641
                        obtain ⟨v2643, c2644⟩ : ∃ v, I2629 a0 13 = v := ⟨_, rfl⟩
                        obtain ⟨v2645, c2646⟩ : ∃ v, I2629 a0 14 = v := ⟨_, rfl⟩
                        (try rw [c2641] at ov2639)
                        (try rw [c2644] at ov2639)
                        (try rw [c2646] at ov2639)
                        (try rw [c2617] at ov2639)
                        (try rw [c2618] at ov2639)
                        (try rw [c2619] at ov2639)
                        refine tr_aload_n dX12_readAlp_63 rfl ?_
                        refine tr_getR dX12_readAlp_64 fl12_188 (kR15 hS2635.1 ta0) d2 ?_
                        refine tr_getR dX12_readAlp_67 fl12_260 (kR14 hS2635.1 ta1) d67 ?_
                        refine tr_iload_n dX12_readAlp_70 rfl ?_
                        refine tr_aload_n dX12_readAlp_71 rfl ?_
                        refine q_iconst dX12_readAlp_72 (by decide) ?_
                        intro v2647 h2648
                        refine q_bipush dX12_readAlp_73 (by decide +kernel) ?_
                        intro v2649 h2650
                        refine q_callVi hE (M' := mX12_readWhole) (as := [_, _]) dX12_readAlp_75 lk12_161 inX12_readWhole seX12_readWhole myX12_readWhole (by decide) ⟨by decide, by decide⟩ rfl (kR15 hS2635.1 ta0) (Nat.le_of_ble_eq_true rfl) rfl rfl (by decide) (by decide) (k_X12_readWhole hS2635.1 ta0) ?_
                        rintro v2655 cn' K' N' I2651 R2652 L2653 ⟨rfl, rfl, rfl, rfl, g2654, p2656, w2657, -⟩
                        have hS2658 := hS2635.tr g2654 (by decide +kernel) (by decide +kernel)
                        have c2659 : I2651 a1 0 = v29 := (g2654.cell ta1 (by decide +kernel)).trans c2636
                        have c2660 : I2651 a1 1 = v33 := (g2654.cell ta1 (by decide +kernel)).trans c2637
                        have b2661 : 0 ≤ v2655.toInt ∧ v2655.toInt ≤ 99 := by omega
                        clear p2656
                        have hO2662 : FrO 14 a1 T I0 I2651 := hO2638.st g2654 (by decide +kernel)
                        have ov2663 := w2657.over (by rw [c2641]; omega)
                        obtain ⟨v2664, c2665⟩ : ∃ v, I2651 a0 9 = v := ⟨_, rfl⟩
                        have b2666 := iv15_9 hS2658.1 ta0 c2665
                        obtain ⟨v2667, c2668⟩ : ∃ v, I2651 a0 13 = v := ⟨_, rfl⟩
                        obtain ⟨v2669, c2670⟩ : ∃ v, I2651 a0 14 = v := ⟨_, rfl⟩
                        (try rw [c2665] at ov2663)
                        (try rw [c2668] at ov2663)
                        (try rw [c2670] at ov2663)
                        (try rw [c2641] at ov2663)
                        (try rw [c2644] at ov2663)
                        (try rw [c2646] at ov2663)
                        refine q_iast dX12_readAlp_78 (kR53 hS2658.1 ta66) (ti_in (nR53 hS2658.1 ta66) (by omega) (by omega)) hS2658 ta66 (iokF rfl) rfl (by rfl) ?_
                        intro I2671 hS2672 e2674 f2673
                        have c2675 : I2671 a1 0 = v29 := (f2673 _ _ (fun q => by have z := ta1; rw [q.1, ta66] at z; exact absurd z (by decide))).trans c2659
                        have c2676 : I2671 a1 1 = v33 := (f2673 _ _ (fun q => by have z := ta1; rw [q.1, ta66] at z; exact absurd z (by decide))).trans c2660
                        have c2677 : I2671 a0 9 = v2664 := (f2673 _ _ (fun q => by have z := ta0; rw [q.1, ta66] at z; exact absurd z (by decide))).trans c2665
                        have c2678 : I2671 a0 13 = v2667 := (f2673 _ _ (fun q => by have z := ta0; rw [q.1, ta66] at z; exact absurd z (by decide))).trans c2668
                        have c2679 : I2671 a0 14 = v2669 := (f2673 _ _ (fun q => by have z := ta0; rw [q.1, ta66] at z; exact absurd z (by decide))).trans c2670
                        have hO2680 : FrO 14 a1 T I0 I2671 := hO2662.put f2673 ta66 (Or.inl (by decide))
                        refine q_iincE dX12_readAlp_79 rfl (by decide) (by decide) (by intros; omega) ?_
                        intro v2681 h2682
                        refine tr_goto 48 dX12_readAlp_82 (by decide) ?_
                        refine tr_iload_n dX12_readAlp_48 rfl ?_
                        refine q_iconst dX12_readAlp_49 (by decide) ?_
                        intro v2683 h2684
                        refine q_icmp_ge 85 dX12_readAlp_50 (by decide) (fun h2685 => ?_) (fun h2685 => ?_)
                        · skip
                          exfalso; omega
                        · skip
                          refine tr_iload_n dX12_readAlp_53 rfl ?_
                          refine q_if_le 63 dX12_readAlp_54 (by decide) (fun h2686 => ?_) (fun h2686 => ?_)
                          · skip
                            exfalso; omega
                          · skip
                            refine tr_aload_n dX12_readAlp_57 rfl ?_
                            refine q_bipush dX12_readAlp_58 (by decide +kernel) ?_
                            intro v2687 h2688
                            refine q_callVv hE (M' := mX12_needsSign) (as := [_]) dX12_readAlp_60 lk12_257 inX12_needsSign seX12_needsSign myX12_needsSign (by decide) ⟨by decide, by decide⟩ rfl (kR15 hS2672.1 ta0) (Nat.le_of_ble_eq_true rfl) rfl rfl (by decide) (by decide) (k_X12_needsSign hS2672.1 ta0) ?_
                            rintro cn' K' N' I2689 R2690 L2691 ⟨rfl, rfl, rfl, rfl, g2692, w2694, -⟩
                            have hS2695 := hS2672.tr g2692 (by decide +kernel) (by decide +kernel)
                            have c2696 : I2689 a1 0 = v29 := (g2692.cell ta1 (by decide +kernel)).trans c2675
                            have c2697 : I2689 a1 1 = v33 := (g2692.cell ta1 (by decide +kernel)).trans c2676
                            have hO2698 : FrO 14 a1 T I0 I2689 := hO2680.st g2692 (by decide +kernel)
                            have ov2699 := w2694.over (by rw [c2677]; omega)
                            obtain ⟨v2700, c2701⟩ : ∃ v, I2689 a0 9 = v := ⟨_, rfl⟩
                            have b2702 := iv15_9 hS2695.1 ta0 c2701
                            obtain ⟨v2703, c2704⟩ : ∃ v, I2689 a0 13 = v := ⟨_, rfl⟩
                            obtain ⟨v2705, c2706⟩ : ∃ v, I2689 a0 14 = v := ⟨_, rfl⟩
                            (try rw [c2701] at ov2699)
                            (try rw [c2704] at ov2699)
                            (try rw [c2706] at ov2699)
                            (try rw [c2677] at ov2699)
                            (try rw [c2678] at ov2699)
                            (try rw [c2679] at ov2699)
                            refine tr_aload_n dX12_readAlp_63 rfl ?_
                            refine tr_getR dX12_readAlp_64 fl12_188 (kR15 hS2695.1 ta0) d2 ?_
                            refine tr_getR dX12_readAlp_67 fl12_260 (kR14 hS2695.1 ta1) d67 ?_
                            refine tr_iload_n dX12_readAlp_70 rfl ?_
                            refine tr_aload_n dX12_readAlp_71 rfl ?_
                            refine q_iconst dX12_readAlp_72 (by decide) ?_
                            intro v2707 h2708
                            refine q_bipush dX12_readAlp_73 (by decide +kernel) ?_
                            intro v2709 h2710
                            refine q_callVi hE (M' := mX12_readWhole) (as := [_, _]) dX12_readAlp_75 lk12_161 inX12_readWhole seX12_readWhole myX12_readWhole (by decide) ⟨by decide, by decide⟩ rfl (kR15 hS2695.1 ta0) (Nat.le_of_ble_eq_true rfl) rfl rfl (by decide) (by decide) (k_X12_readWhole hS2695.1 ta0) ?_
                            rintro v2715 cn' K' N' I2711 R2712 L2713 ⟨rfl, rfl, rfl, rfl, g2714, p2716, w2717, -⟩
                            have hS2718 := hS2695.tr g2714 (by decide +kernel) (by decide +kernel)
                            have c2719 : I2711 a1 0 = v29 := (g2714.cell ta1 (by decide +kernel)).trans c2696
                            have c2720 : I2711 a1 1 = v33 := (g2714.cell ta1 (by decide +kernel)).trans c2697
                            have b2721 : 0 ≤ v2715.toInt ∧ v2715.toInt ≤ 99 := by omega
                            clear p2716
                            have hO2722 : FrO 14 a1 T I0 I2711 := hO2698.st g2714 (by decide +kernel)
                            have ov2723 := w2717.over (by rw [c2701]; omega)
                            obtain ⟨v2724, c2725⟩ : ∃ v, I2711 a0 9 = v := ⟨_, rfl⟩
                            have b2726 := iv15_9 hS2718.1 ta0 c2725
                            obtain ⟨v2727, c2728⟩ : ∃ v, I2711 a0 13 = v := ⟨_, rfl⟩
                            obtain ⟨v2729, c2730⟩ : ∃ v, I2711 a0 14 = v := ⟨_, rfl⟩
                            (try rw [c2725] at ov2723)
                            (try rw [c2728] at ov2723)
                            (try rw [c2730] at ov2723)
                            (try rw [c2701] at ov2723)
                            (try rw [c2704] at ov2723)
                            (try rw [c2706] at ov2723)
                            refine q_iast dX12_readAlp_78 (kR53 hS2718.1 ta66) (ti_in (nR53 hS2718.1 ta66) (by omega) (by omega)) hS2718 ta66 (iokF rfl) rfl (by rfl) ?_
                            intro I2731 hS2732 e2734 f2733
                            have c2735 : I2731 a1 0 = v29 := (f2733 _ _ (fun q => by have z := ta1; rw [q.1, ta66] at z; exact absurd z (by decide))).trans c2719
                            have c2736 : I2731 a1 1 = v33 := (f2733 _ _ (fun q => by have z := ta1; rw [q.1, ta66] at z; exact absurd z (by decide))).trans c2720
                            have c2737 : I2731 a0 9 = v2724 := (f2733 _ _ (fun q => by have z := ta0; rw [q.1, ta66] at z; exact absurd z (by decide))).trans c2725
                            have c2738 : I2731 a0 13 = v2727 := (f2733 _ _ (fun q => by have z := ta0; rw [q.1, ta66] at z; exact absurd z (by decide))).trans c2728
                            have c2739 : I2731 a0 14 = v2729 := (f2733 _ _ (fun q => by have z := ta0; rw [q.1, ta66] at z; exact absurd z (by decide))).trans c2730
                            have hO2740 : FrO 14 a1 T I0 I2731 := hO2722.put f2733 ta66 (Or.inl (by decide))
                            refine q_iincE dX12_readAlp_79 rfl (by decide) (by decide) (by intros; omega) ?_
                            intro v2741 h2742
                            refine tr_goto 48 dX12_readAlp_82 (by decide) ?_
                            refine tr_iload_n dX12_readAlp_48 rfl ?_
                            refine q_iconst dX12_readAlp_49 (by decide) ?_
                            intro v2743 h2744
                            refine q_icmp_ge 85 dX12_readAlp_50 (by decide) (fun h2745 => ?_) (fun h2745 => ?_)
                            · skip
                              exfalso; omega
                            · skip
                              refine tr_iload_n dX12_readAlp_53 rfl ?_
                              refine q_if_le 63 dX12_readAlp_54 (by decide) (fun h2746 => ?_) (fun h2746 => ?_)
                              · skip
                                exfalso; omega
                              · skip
                                refine tr_aload_n dX12_readAlp_57 rfl ?_
                                refine q_bipush dX12_readAlp_58 (by decide +kernel) ?_
                                intro v2747 h2748
                                refine q_callVv hE (M' := mX12_needsSign) (as := [_]) dX12_readAlp_60 lk12_257 inX12_needsSign seX12_needsSign myX12_needsSign (by decide) ⟨by decide, by decide⟩ rfl (kR15 hS2732.1 ta0) (Nat.le_of_ble_eq_true rfl) rfl rfl (by decide) (by decide) (k_X12_needsSign hS2732.1 ta0) ?_
                                rintro cn' K' N' I2749 R2750 L2751 ⟨rfl, rfl, rfl, rfl, g2752, w2754, -⟩
                                have hS2755 := hS2732.tr g2752 (by decide +kernel) (by decide +kernel)
                                have c2756 : I2749 a1 0 = v29 := (g2752.cell ta1 (by decide +kernel)).trans c2735
                                have c2757 : I2749 a1 1 = v33 := (g2752.cell ta1 (by decide +kernel)).trans c2736
                                have hO2758 : FrO 14 a1 T I0 I2749 := hO2740.st g2752 (by decide +kernel)
                                have ov2759 := w2754.over (by rw [c2737]; omega)
                                obtain ⟨v2760, c2761⟩ : ∃ v, I2749 a0 9 = v := ⟨_, rfl⟩
                                have b2762 := iv15_9 hS2755.1 ta0 c2761
                                obtain ⟨v2763, c2764⟩ : ∃ v, I2749 a0 13 = v := ⟨_, rfl⟩
                                obtain ⟨v2765, c2766⟩ : ∃ v, I2749 a0 14 = v := ⟨_, rfl⟩
                                (try rw [c2761] at ov2759)
                                (try rw [c2764] at ov2759)
                                (try rw [c2766] at ov2759)
                                (try rw [c2737] at ov2759)
                                (try rw [c2738] at ov2759)
                                (try rw [c2739] at ov2759)
                                refine tr_aload_n dX12_readAlp_63 rfl ?_
                                refine tr_getR dX12_readAlp_64 fl12_188 (kR15 hS2755.1 ta0) d2 ?_
                                refine tr_getR dX12_readAlp_67 fl12_260 (kR14 hS2755.1 ta1) d67 ?_
                                refine tr_iload_n dX12_readAlp_70 rfl ?_
                                refine tr_aload_n dX12_readAlp_71 rfl ?_
                                refine q_iconst dX12_readAlp_72 (by decide) ?_
                                intro v2767 h2768
                                refine q_bipush dX12_readAlp_73 (by decide +kernel) ?_
                                intro v2769 h2770
                                refine q_callVi hE (M' := mX12_readWhole) (as := [_, _]) dX12_readAlp_75 lk12_161 inX12_readWhole seX12_readWhole myX12_readWhole (by decide) ⟨by decide, by decide⟩ rfl (kR15 hS2755.1 ta0) (Nat.le_of_ble_eq_true rfl) rfl rfl (by decide) (by decide) (k_X12_readWhole hS2755.1 ta0) ?_
                                rintro v2775 cn' K' N' I2771 R2772 L2773 ⟨rfl, rfl, rfl, rfl, g2774, p2776, w2777, -⟩
                                have hS2778 := hS2755.tr g2774 (by decide +kernel) (by decide +kernel)
                                have c2779 : I2771 a1 0 = v29 := (g2774.cell ta1 (by decide +kernel)).trans c2756
                                have c2780 : I2771 a1 1 = v33 := (g2774.cell ta1 (by decide +kernel)).trans c2757
                                have b2781 : 0 ≤ v2775.toInt ∧ v2775.toInt ≤ 99 := by omega
                                clear p2776
                                have hO2782 : FrO 14 a1 T I0 I2771 := hO2758.st g2774 (by decide +kernel)
                                have ov2783 := w2777.over (by rw [c2761]; omega)
                                obtain ⟨v2784, c2785⟩ : ∃ v, I2771 a0 9 = v := ⟨_, rfl⟩
                                have b2786 := iv15_9 hS2778.1 ta0 c2785
                                obtain ⟨v2787, c2788⟩ : ∃ v, I2771 a0 13 = v := ⟨_, rfl⟩
                                obtain ⟨v2789, c2790⟩ : ∃ v, I2771 a0 14 = v := ⟨_, rfl⟩
                                (try rw [c2785] at ov2783)
                                (try rw [c2788] at ov2783)
                                (try rw [c2790] at ov2783)
                                (try rw [c2761] at ov2783)
                                (try rw [c2764] at ov2783)
                                (try rw [c2766] at ov2783)
                                refine q_iast dX12_readAlp_78 (kR53 hS2778.1 ta66) (ti_in (nR53 hS2778.1 ta66) (by omega) (by omega)) hS2778 ta66 (iokF rfl) rfl (by rfl) ?_
                                intro I2791 hS2792 e2794 f2793
                                have c2795 : I2791 a1 0 = v29 := (f2793 _ _ (fun q => by have z := ta1; rw [q.1, ta66] at z; exact absurd z (by decide))).trans c2779
                                have c2796 : I2791 a1 1 = v33 := (f2793 _ _ (fun q => by have z := ta1; rw [q.1, ta66] at z; exact absurd z (by decide))).trans c2780
                                have c2797 : I2791 a0 9 = v2784 := (f2793 _ _ (fun q => by have z := ta0; rw [q.1, ta66] at z; exact absurd z (by decide))).trans c2785
                                have c2798 : I2791 a0 13 = v2787 := (f2793 _ _ (fun q => by have z := ta0; rw [q.1, ta66] at z; exact absurd z (by decide))).trans c2788
                                have c2799 : I2791 a0 14 = v2789 := (f2793 _ _ (fun q => by have z := ta0; rw [q.1, ta66] at z; exact absurd z (by decide))).trans c2790
                                have hO2800 : FrO 14 a1 T I0 I2791 := hO2782.put f2793 ta66 (Or.inl (by decide))
                                refine q_iincE dX12_readAlp_79 rfl (by decide) (by decide) (by intros; omega) ?_
                                intro v2801 h2802
                                refine tr_goto 48 dX12_readAlp_82 (by decide) ?_
                                refine tr_iload_n dX12_readAlp_48 rfl ?_
                                refine q_iconst dX12_readAlp_49 (by decide) ?_
                                intro v2803 h2804
                                refine q_icmp_ge 85 dX12_readAlp_50 (by decide) (fun h2805 => ?_) (fun h2805 => ?_)
                                · skip
                                  refine tr_aload_n dX12_readAlp_85 rfl ?_
                                  refine q_getI dX12_readAlp_86 fl12_99 (kR15 hS2792.1 ta0) c2797 ?_
                                  refine q_iconst dX12_readAlp_89 (by decide) ?_
                                  intro v2806 h2807
                                  refine q_icmp_ne 94 dX12_readAlp_90 (by decide) (fun h2808 => ?_) (fun h2808 => ?_)
                                  · skip
                                    exfalso; omega
                                  · skip
                                    have eF := hF.eq
                                    have eP := hP.eq
                                    obtain ⟨v2809, c2810⟩ : ∃ v, I2791 a0 10 = v := ⟨_, rfl⟩
                                    have b2811 := iv15_10 hS2792.1 ta0 c2810
                                    obtain ⟨v2812, c2813⟩ : ∃ v, I2791 a0 11 = v := ⟨_, rfl⟩
                                    obtain ⟨y2814, c2815⟩ : ∃ v, L2773 a0 15 = v := ⟨_, rfl⟩
                                    obtain ⟨v2816, c2817⟩ : ∃ v, I2791 a0 12 = v := ⟨_, rfl⟩
                                    obtain ⟨v2818, c2819⟩ : ∃ v, I2791 a0 8 = v := ⟨_, rfl⟩
                                    have b2820 := iv15_8 hS2792.1 ta0 c2819
                                    exact tr_vret hZ dX12_readAlp_93 rfl (by decide) (by decide) ⟨rfl, rfl, rfl, rfl, rfl, hS2792, (fun b hb => (Option.some.inj (d2.symm.trans hb)) ▸ (((((((((((((((((((FrM.rf (R := R0) (b := a1) (T := T)).st g74 (by decide +kernel)).st g126 (by decide +kernel)).st g196 (by decide +kernel)).st g262 (by decide +kernel)).st g318 (by decide +kernel)).pu f2553 (by decide) (by decide) d67).st g2572 (by decide +kernel)).st g2594 (by decide +kernel)).pu f2613 (by decide) (by decide) d67).st g2632 (by decide +kernel)).st g2654 (by decide +kernel)).pu f2673 (by decide) (by decide) d67).st g2692 (by decide +kernel)).st g2714 (by decide +kernel)).pu f2733 (by decide) (by decide) d67).st g2752 (by decide +kernel)).st g2774 (by decide +kernel)).pu f2793 (by decide) (by decide) d67)), (fun dr hd => (Option.some.inj (d2.symm.trans hd)) ▸ hO2800), (Or.inr (⟨(by (try rw [w109]); first | done | with_reducible assumption | omega), (by (try rw [w109]); (try rw [c2797]); first | done | with_reducible assumption | omega), (by (try rw [w109]); (try rw [c2798]); first | done | with_reducible assumption | omega), (by (try rw [w109]); (try rw [c2799]); first | done | with_reducible assumption | omega), trivial⟩)), trivial⟩
                                · skip
                                  exfalso; omega
              · skip
                obtain ⟨v2821, c2822⟩ : ∃ v, I315 a0 9 = v := ⟨_, rfl⟩
                have b2823 := iv15_9 hS323.1 ta0 c2822
                rw [c2822] at p348
                obtain ⟨v2824, c2825⟩ : ∃ v, I315 a0 13 = v := ⟨_, rfl⟩
                rw [c2825] at p349
                obtain ⟨v2826, c2827⟩ : ∃ v, I315 a0 14 = v := ⟨_, rfl⟩
                rw [c2827] at p350
                replace hF := hF.neg (by omega)
                replace hP := hP.neg (by omega)
                replace hF := hF.pos (by omega)
                replace hP := hP.pos (by omega)
                refine q_iast dX12_readAlp_78 (kR53 hS323.1 ta66) (ti_in (nR53 hS323.1 ta66) (by omega) (by omega)) hS323 ta66 (iokF rfl) rfl (by rfl) ?_
                intro I2828 hS2829 e2831 f2830
                have c2832 : I2828 a1 0 = v29 := (f2830 _ _ (fun q => by have z := ta1; rw [q.1, ta66] at z; exact absurd z (by decide))).trans c324
                have c2833 : I2828 a1 1 = v33 := (f2830 _ _ (fun q => by have z := ta1; rw [q.1, ta66] at z; exact absurd z (by decide))).trans c325
                have c2834 : I2828 a0 9 = v2821 := (f2830 _ _ (fun q => by have z := ta0; rw [q.1, ta66] at z; exact absurd z (by decide))).trans c2822
                have c2835 : I2828 a0 13 = v2824 := (f2830 _ _ (fun q => by have z := ta0; rw [q.1, ta66] at z; exact absurd z (by decide))).trans c2825
                have c2836 : I2828 a0 14 = v2826 := (f2830 _ _ (fun q => by have z := ta0; rw [q.1, ta66] at z; exact absurd z (by decide))).trans c2827
                have hO2837 : FrO 14 a1 T I0 I2828 := hO326.put f2830 ta66 (Or.inl (by decide))
                refine q_iincE dX12_readAlp_79 rfl (by decide) (by decide) (by intros; omega) ?_
                intro v2838 h2839
                refine tr_goto 48 dX12_readAlp_82 (by decide) ?_
                refine tr_iload_n dX12_readAlp_48 rfl ?_
                refine q_iconst dX12_readAlp_49 (by decide) ?_
                intro v2840 h2841
                refine q_icmp_ge 85 dX12_readAlp_50 (by decide) (fun h2842 => ?_) (fun h2842 => ?_)
                · skip
                  exfalso; omega
                · skip
                  refine tr_iload_n dX12_readAlp_53 rfl ?_
                  refine q_if_le 63 dX12_readAlp_54 (by decide) (fun h2843 => ?_) (fun h2843 => ?_)
                  · skip
                    exfalso; omega
                  · skip
                    refine tr_aload_n dX12_readAlp_57 rfl ?_
                    refine q_bipush dX12_readAlp_58 (by decide +kernel) ?_
                    intro v2844 h2845
                    refine q_callVv hE (M' := mX12_needsSign) (as := [_]) dX12_readAlp_60 lk12_257 inX12_needsSign seX12_needsSign myX12_needsSign (by decide) ⟨by decide, by decide⟩ rfl (kR15 hS2829.1 ta0) (Nat.le_of_ble_eq_true rfl) rfl rfl (by decide) (by decide) (k_X12_needsSign hS2829.1 ta0) ?_
                    rintro cn' K' N' I2846 R2847 L2848 ⟨rfl, rfl, rfl, rfl, g2849, w2851, -⟩
                    have hS2852 := hS2829.tr g2849 (by decide +kernel) (by decide +kernel)
                    have c2853 : I2846 a1 0 = v29 := (g2849.cell ta1 (by decide +kernel)).trans c2832
                    have c2854 : I2846 a1 1 = v33 := (g2849.cell ta1 (by decide +kernel)).trans c2833
                    have hO2855 : FrO 14 a1 T I0 I2846 := hO2837.st g2849 (by decide +kernel)
                    have ov2856 := w2851.over (by rw [c2834]; omega)
                    obtain ⟨v2857, c2858⟩ : ∃ v, I2846 a0 9 = v := ⟨_, rfl⟩
                    have b2859 := iv15_9 hS2852.1 ta0 c2858
                    obtain ⟨v2860, c2861⟩ : ∃ v, I2846 a0 13 = v := ⟨_, rfl⟩
                    obtain ⟨v2862, c2863⟩ : ∃ v, I2846 a0 14 = v := ⟨_, rfl⟩
                    (try rw [c2858] at ov2856)
                    (try rw [c2861] at ov2856)
                    (try rw [c2863] at ov2856)
                    (try rw [c2834] at ov2856)
                    (try rw [c2835] at ov2856)
                    (try rw [c2836] at ov2856)
                    refine tr_aload_n dX12_readAlp_63 rfl ?_
                    refine tr_getR dX12_readAlp_64 fl12_188 (kR15 hS2852.1 ta0) d2 ?_
                    refine tr_getR dX12_readAlp_67 fl12_260 (kR14 hS2852.1 ta1) d67 ?_
                    refine tr_iload_n dX12_readAlp_70 rfl ?_
                    refine tr_aload_n dX12_readAlp_71 rfl ?_
                    refine q_iconst dX12_readAlp_72 (by decide) ?_
                    intro v2864 h2865
                    refine q_bipush dX12_readAlp_73 (by decide +kernel) ?_
                    intro v2866 h2867
                    refine q_callVi hE (M' := mX12_readWhole) (as := [_, _]) dX12_readAlp_75 lk12_161 inX12_readWhole seX12_readWhole myX12_readWhole (by decide) ⟨by decide, by decide⟩ rfl (kR15 hS2852.1 ta0) (Nat.le_of_ble_eq_true rfl) rfl rfl (by decide) (by decide) (k_X12_readWhole hS2852.1 ta0) ?_
                    rintro v2872 cn' K' N' I2868 R2869 L2870 ⟨rfl, rfl, rfl, rfl, g2871, p2873, w2874, -⟩
                    have hS2875 := hS2852.tr g2871 (by decide +kernel) (by decide +kernel)
                    have c2876 : I2868 a1 0 = v29 := (g2871.cell ta1 (by decide +kernel)).trans c2853
                    have c2877 : I2868 a1 1 = v33 := (g2871.cell ta1 (by decide +kernel)).trans c2854
                    have b2878 : 0 ≤ v2872.toInt ∧ v2872.toInt ≤ 99 := by omega
                    clear p2873
                    have hO2879 : FrO 14 a1 T I0 I2868 := hO2855.st g2871 (by decide +kernel)
                    have ov2880 := w2874.over (by rw [c2858]; omega)
                    obtain ⟨v2881, c2882⟩ : ∃ v, I2868 a0 9 = v := ⟨_, rfl⟩
                    have b2883 := iv15_9 hS2875.1 ta0 c2882
                    obtain ⟨v2884, c2885⟩ : ∃ v, I2868 a0 13 = v := ⟨_, rfl⟩
                    obtain ⟨v2886, c2887⟩ : ∃ v, I2868 a0 14 = v := ⟨_, rfl⟩
                    (try rw [c2882] at ov2880)
                    (try rw [c2885] at ov2880)
                    (try rw [c2887] at ov2880)
                    (try rw [c2858] at ov2880)
                    (try rw [c2861] at ov2880)
                    (try rw [c2863] at ov2880)
                    refine q_iast dX12_readAlp_78 (kR53 hS2875.1 ta66) (ti_in (nR53 hS2875.1 ta66) (by omega) (by omega)) hS2875 ta66 (iokF rfl) rfl (by rfl) ?_
                    intro I2888 hS2889 e2891 f2890
                    have c2892 : I2888 a1 0 = v29 := (f2890 _ _ (fun q => by have z := ta1; rw [q.1, ta66] at z; exact absurd z (by decide))).trans c2876
                    have c2893 : I2888 a1 1 = v33 := (f2890 _ _ (fun q => by have z := ta1; rw [q.1, ta66] at z; exact absurd z (by decide))).trans c2877
                    have c2894 : I2888 a0 9 = v2881 := (f2890 _ _ (fun q => by have z := ta0; rw [q.1, ta66] at z; exact absurd z (by decide))).trans c2882
                    have c2895 : I2888 a0 13 = v2884 := (f2890 _ _ (fun q => by have z := ta0; rw [q.1, ta66] at z; exact absurd z (by decide))).trans c2885
                    have c2896 : I2888 a0 14 = v2886 := (f2890 _ _ (fun q => by have z := ta0; rw [q.1, ta66] at z; exact absurd z (by decide))).trans c2887
                    have hO2897 : FrO 14 a1 T I0 I2888 := hO2879.put f2890 ta66 (Or.inl (by decide))
                    refine q_iincE dX12_readAlp_79 rfl (by decide) (by decide) (by intros; omega) ?_
                    intro v2898 h2899
                    refine tr_goto 48 dX12_readAlp_82 (by decide) ?_
                    refine tr_iload_n dX12_readAlp_48 rfl ?_
                    refine q_iconst dX12_readAlp_49 (by decide) ?_
                    intro v2900 h2901
                    refine q_icmp_ge 85 dX12_readAlp_50 (by decide) (fun h2902 => ?_) (fun h2902 => ?_)
                    · skip
                      exfalso; omega
                    · skip
                      refine tr_iload_n dX12_readAlp_53 rfl ?_
                      refine q_if_le 63 dX12_readAlp_54 (by decide) (fun h2903 => ?_) (fun h2903 => ?_)
                      · skip
                        exfalso; omega
                      · skip
                        refine tr_aload_n dX12_readAlp_57 rfl ?_
                        refine q_bipush dX12_readAlp_58 (by decide +kernel) ?_
                        intro v2904 h2905
                        refine q_callVv hE (M' := mX12_needsSign) (as := [_]) dX12_readAlp_60 lk12_257 inX12_needsSign seX12_needsSign myX12_needsSign (by decide) ⟨by decide, by decide⟩ rfl (kR15 hS2889.1 ta0) (Nat.le_of_ble_eq_true rfl) rfl rfl (by decide) (by decide) (k_X12_needsSign hS2889.1 ta0) ?_
                        rintro cn' K' N' I2906 R2907 L2908 ⟨rfl, rfl, rfl, rfl, g2909, w2911, -⟩
                        have hS2912 := hS2889.tr g2909 (by decide +kernel) (by decide +kernel)
                        have c2913 : I2906 a1 0 = v29 := (g2909.cell ta1 (by decide +kernel)).trans c2892
                        have c2914 : I2906 a1 1 = v33 := (g2909.cell ta1 (by decide +kernel)).trans c2893
                        have hO2915 : FrO 14 a1 T I0 I2906 := hO2897.st g2909 (by decide +kernel)
                        have ov2916 := w2911.over (by rw [c2894]; omega)
                        obtain ⟨v2917, c2918⟩ : ∃ v, I2906 a0 9 = v := ⟨_, rfl⟩
                        have b2919 := iv15_9 hS2912.1 ta0 c2918
                        obtain ⟨v2920, c2921⟩ : ∃ v, I2906 a0 13 = v := ⟨_, rfl⟩
                        obtain ⟨v2922, c2923⟩ : ∃ v, I2906 a0 14 = v := ⟨_, rfl⟩
                        (try rw [c2918] at ov2916)
                        (try rw [c2921] at ov2916)
                        (try rw [c2923] at ov2916)
                        (try rw [c2894] at ov2916)
                        (try rw [c2895] at ov2916)
                        (try rw [c2896] at ov2916)
                        refine tr_aload_n dX12_readAlp_63 rfl ?_
                        refine tr_getR dX12_readAlp_64 fl12_188 (kR15 hS2912.1 ta0) d2 ?_
                        refine tr_getR dX12_readAlp_67 fl12_260 (kR14 hS2912.1 ta1) d67 ?_
                        refine tr_iload_n dX12_readAlp_70 rfl ?_
                        refine tr_aload_n dX12_readAlp_71 rfl ?_
                        refine q_iconst dX12_readAlp_72 (by decide) ?_
                        intro v2924 h2925
                        refine q_bipush dX12_readAlp_73 (by decide +kernel) ?_
                        intro v2926 h2927
                        refine q_callVi hE (M' := mX12_readWhole) (as := [_, _]) dX12_readAlp_75 lk12_161 inX12_readWhole seX12_readWhole myX12_readWhole (by decide) ⟨by decide, by decide⟩ rfl (kR15 hS2912.1 ta0) (Nat.le_of_ble_eq_true rfl) rfl rfl (by decide) (by decide) (k_X12_readWhole hS2912.1 ta0) ?_
                        rintro v2932 cn' K' N' I2928 R2929 L2930 ⟨rfl, rfl, rfl, rfl, g2931, p2933, w2934, -⟩
                        have hS2935 := hS2912.tr g2931 (by decide +kernel) (by decide +kernel)
                        have c2936 : I2928 a1 0 = v29 := (g2931.cell ta1 (by decide +kernel)).trans c2913
                        have c2937 : I2928 a1 1 = v33 := (g2931.cell ta1 (by decide +kernel)).trans c2914
                        have b2938 : 0 ≤ v2932.toInt ∧ v2932.toInt ≤ 99 := by omega
                        clear p2933
                        have hO2939 : FrO 14 a1 T I0 I2928 := hO2915.st g2931 (by decide +kernel)
                        have ov2940 := w2934.over (by rw [c2918]; omega)
                        obtain ⟨v2941, c2942⟩ : ∃ v, I2928 a0 9 = v := ⟨_, rfl⟩
                        have b2943 := iv15_9 hS2935.1 ta0 c2942
                        obtain ⟨v2944, c2945⟩ : ∃ v, I2928 a0 13 = v := ⟨_, rfl⟩
                        obtain ⟨v2946, c2947⟩ : ∃ v, I2928 a0 14 = v := ⟨_, rfl⟩
                        (try rw [c2942] at ov2940)
                        (try rw [c2945] at ov2940)
                        (try rw [c2947] at ov2940)
                        (try rw [c2918] at ov2940)
                        (try rw [c2921] at ov2940)
                        (try rw [c2923] at ov2940)
                        refine q_iast dX12_readAlp_78 (kR53 hS2935.1 ta66) (ti_in (nR53 hS2935.1 ta66) (by omega) (by omega)) hS2935 ta66 (iokF rfl) rfl (by rfl) ?_
                        intro I2948 hS2949 e2951 f2950
                        have c2952 : I2948 a1 0 = v29 := (f2950 _ _ (fun q => by have z := ta1; rw [q.1, ta66] at z; exact absurd z (by decide))).trans c2936
                        have c2953 : I2948 a1 1 = v33 := (f2950 _ _ (fun q => by have z := ta1; rw [q.1, ta66] at z; exact absurd z (by decide))).trans c2937
                        have c2954 : I2948 a0 9 = v2941 := (f2950 _ _ (fun q => by have z := ta0; rw [q.1, ta66] at z; exact absurd z (by decide))).trans c2942
                        have c2955 : I2948 a0 13 = v2944 := (f2950 _ _ (fun q => by have z := ta0; rw [q.1, ta66] at z; exact absurd z (by decide))).trans c2945
                        have c2956 : I2948 a0 14 = v2946 := (f2950 _ _ (fun q => by have z := ta0; rw [q.1, ta66] at z; exact absurd z (by decide))).trans c2947
                        have hO2957 : FrO 14 a1 T I0 I2948 := hO2939.put f2950 ta66 (Or.inl (by decide))
                        refine q_iincE dX12_readAlp_79 rfl (by decide) (by decide) (by intros; omega) ?_
                        intro v2958 h2959
                        refine tr_goto 48 dX12_readAlp_82 (by decide) ?_
                        refine tr_iload_n dX12_readAlp_48 rfl ?_
                        refine q_iconst dX12_readAlp_49 (by decide) ?_
                        intro v2960 h2961
                        refine q_icmp_ge 85 dX12_readAlp_50 (by decide) (fun h2962 => ?_) (fun h2962 => ?_)
                        · skip
                          exfalso; omega
                        · skip
                          refine tr_iload_n dX12_readAlp_53 rfl ?_
                          refine q_if_le 63 dX12_readAlp_54 (by decide) (fun h2963 => ?_) (fun h2963 => ?_)
                          · skip
                            exfalso; omega
                          · skip
                            refine tr_aload_n dX12_readAlp_57 rfl ?_
                            refine q_bipush dX12_readAlp_58 (by decide +kernel) ?_
                            intro v2964 h2965
                            refine q_callVv hE (M' := mX12_needsSign) (as := [_]) dX12_readAlp_60 lk12_257 inX12_needsSign seX12_needsSign myX12_needsSign (by decide) ⟨by decide, by decide⟩ rfl (kR15 hS2949.1 ta0) (Nat.le_of_ble_eq_true rfl) rfl rfl (by decide) (by decide) (k_X12_needsSign hS2949.1 ta0) ?_
                            rintro cn' K' N' I2966 R2967 L2968 ⟨rfl, rfl, rfl, rfl, g2969, w2971, -⟩
                            have hS2972 := hS2949.tr g2969 (by decide +kernel) (by decide +kernel)
                            have c2973 : I2966 a1 0 = v29 := (g2969.cell ta1 (by decide +kernel)).trans c2952
                            have c2974 : I2966 a1 1 = v33 := (g2969.cell ta1 (by decide +kernel)).trans c2953
                            have hO2975 : FrO 14 a1 T I0 I2966 := hO2957.st g2969 (by decide +kernel)
                            have ov2976 := w2971.over (by rw [c2954]; omega)
                            obtain ⟨v2977, c2978⟩ : ∃ v, I2966 a0 9 = v := ⟨_, rfl⟩
                            have b2979 := iv15_9 hS2972.1 ta0 c2978
                            obtain ⟨v2980, c2981⟩ : ∃ v, I2966 a0 13 = v := ⟨_, rfl⟩
                            obtain ⟨v2982, c2983⟩ : ∃ v, I2966 a0 14 = v := ⟨_, rfl⟩
                            (try rw [c2978] at ov2976)
                            (try rw [c2981] at ov2976)
                            (try rw [c2983] at ov2976)
                            (try rw [c2954] at ov2976)
                            (try rw [c2955] at ov2976)
                            (try rw [c2956] at ov2976)
                            refine tr_aload_n dX12_readAlp_63 rfl ?_
                            refine tr_getR dX12_readAlp_64 fl12_188 (kR15 hS2972.1 ta0) d2 ?_
                            refine tr_getR dX12_readAlp_67 fl12_260 (kR14 hS2972.1 ta1) d67 ?_
                            refine tr_iload_n dX12_readAlp_70 rfl ?_
                            refine tr_aload_n dX12_readAlp_71 rfl ?_
                            refine q_iconst dX12_readAlp_72 (by decide) ?_
                            intro v2984 h2985
                            refine q_bipush dX12_readAlp_73 (by decide +kernel) ?_
                            intro v2986 h2987
                            refine q_callVi hE (M' := mX12_readWhole) (as := [_, _]) dX12_readAlp_75 lk12_161 inX12_readWhole seX12_readWhole myX12_readWhole (by decide) ⟨by decide, by decide⟩ rfl (kR15 hS2972.1 ta0) (Nat.le_of_ble_eq_true rfl) rfl rfl (by decide) (by decide) (k_X12_readWhole hS2972.1 ta0) ?_
                            rintro v2992 cn' K' N' I2988 R2989 L2990 ⟨rfl, rfl, rfl, rfl, g2991, p2993, w2994, -⟩
                            have hS2995 := hS2972.tr g2991 (by decide +kernel) (by decide +kernel)
                            have c2996 : I2988 a1 0 = v29 := (g2991.cell ta1 (by decide +kernel)).trans c2973
                            have c2997 : I2988 a1 1 = v33 := (g2991.cell ta1 (by decide +kernel)).trans c2974
                            have b2998 : 0 ≤ v2992.toInt ∧ v2992.toInt ≤ 99 := by omega
                            clear p2993
                            have hO2999 : FrO 14 a1 T I0 I2988 := hO2975.st g2991 (by decide +kernel)
                            have ov3000 := w2994.over (by rw [c2978]; omega)
                            obtain ⟨v3001, c3002⟩ : ∃ v, I2988 a0 9 = v := ⟨_, rfl⟩
                            have b3003 := iv15_9 hS2995.1 ta0 c3002
                            obtain ⟨v3004, c3005⟩ : ∃ v, I2988 a0 13 = v := ⟨_, rfl⟩
                            obtain ⟨v3006, c3007⟩ : ∃ v, I2988 a0 14 = v := ⟨_, rfl⟩
                            (try rw [c3002] at ov3000)
                            (try rw [c3005] at ov3000)
                            (try rw [c3007] at ov3000)
                            (try rw [c2978] at ov3000)
                            (try rw [c2981] at ov3000)
                            (try rw [c2983] at ov3000)
                            refine q_iast dX12_readAlp_78 (kR53 hS2995.1 ta66) (ti_in (nR53 hS2995.1 ta66) (by omega) (by omega)) hS2995 ta66 (iokF rfl) rfl (by rfl) ?_
                            intro I3008 hS3009 e3011 f3010
                            have c3012 : I3008 a1 0 = v29 := (f3010 _ _ (fun q => by have z := ta1; rw [q.1, ta66] at z; exact absurd z (by decide))).trans c2996
                            have c3013 : I3008 a1 1 = v33 := (f3010 _ _ (fun q => by have z := ta1; rw [q.1, ta66] at z; exact absurd z (by decide))).trans c2997
                            have c3014 : I3008 a0 9 = v3001 := (f3010 _ _ (fun q => by have z := ta0; rw [q.1, ta66] at z; exact absurd z (by decide))).trans c3002
                            have c3015 : I3008 a0 13 = v3004 := (f3010 _ _ (fun q => by have z := ta0; rw [q.1, ta66] at z; exact absurd z (by decide))).trans c3005
                            have c3016 : I3008 a0 14 = v3006 := (f3010 _ _ (fun q => by have z := ta0; rw [q.1, ta66] at z; exact absurd z (by decide))).trans c3007
                            have hO3017 : FrO 14 a1 T I0 I3008 := hO2999.put f3010 ta66 (Or.inl (by decide))
                            refine q_iincE dX12_readAlp_79 rfl (by decide) (by decide) (by intros; omega) ?_
                            intro v3018 h3019
                            refine tr_goto 48 dX12_readAlp_82 (by decide) ?_
                            refine tr_iload_n dX12_readAlp_48 rfl ?_
                            refine q_iconst dX12_readAlp_49 (by decide) ?_
                            intro v3020 h3021
                            refine q_icmp_ge 85 dX12_readAlp_50 (by decide) (fun h3022 => ?_) (fun h3022 => ?_)
                            · skip
                              exfalso; omega
                            · skip
                              refine tr_iload_n dX12_readAlp_53 rfl ?_
                              refine q_if_le 63 dX12_readAlp_54 (by decide) (fun h3023 => ?_) (fun h3023 => ?_)
                              · skip
                                exfalso; omega
                              · skip
                                refine tr_aload_n dX12_readAlp_57 rfl ?_
                                refine q_bipush dX12_readAlp_58 (by decide +kernel) ?_
                                intro v3024 h3025
                                refine q_callVv hE (M' := mX12_needsSign) (as := [_]) dX12_readAlp_60 lk12_257 inX12_needsSign seX12_needsSign myX12_needsSign (by decide) ⟨by decide, by decide⟩ rfl (kR15 hS3009.1 ta0) (Nat.le_of_ble_eq_true rfl) rfl rfl (by decide) (by decide) (k_X12_needsSign hS3009.1 ta0) ?_
                                rintro cn' K' N' I3026 R3027 L3028 ⟨rfl, rfl, rfl, rfl, g3029, w3031, -⟩
                                have hS3032 := hS3009.tr g3029 (by decide +kernel) (by decide +kernel)
                                have c3033 : I3026 a1 0 = v29 := (g3029.cell ta1 (by decide +kernel)).trans c3012
                                have c3034 : I3026 a1 1 = v33 := (g3029.cell ta1 (by decide +kernel)).trans c3013
                                have hO3035 : FrO 14 a1 T I0 I3026 := hO3017.st g3029 (by decide +kernel)
                                have ov3036 := w3031.over (by rw [c3014]; omega)
                                obtain ⟨v3037, c3038⟩ : ∃ v, I3026 a0 9 = v := ⟨_, rfl⟩
                                have b3039 := iv15_9 hS3032.1 ta0 c3038
                                obtain ⟨v3040, c3041⟩ : ∃ v, I3026 a0 13 = v := ⟨_, rfl⟩
                                obtain ⟨v3042, c3043⟩ : ∃ v, I3026 a0 14 = v := ⟨_, rfl⟩
                                (try rw [c3038] at ov3036)
                                (try rw [c3041] at ov3036)
                                (try rw [c3043] at ov3036)
                                (try rw [c3014] at ov3036)
                                (try rw [c3015] at ov3036)
                                (try rw [c3016] at ov3036)
                                refine tr_aload_n dX12_readAlp_63 rfl ?_
                                refine tr_getR dX12_readAlp_64 fl12_188 (kR15 hS3032.1 ta0) d2 ?_
                                refine tr_getR dX12_readAlp_67 fl12_260 (kR14 hS3032.1 ta1) d67 ?_
                                refine tr_iload_n dX12_readAlp_70 rfl ?_
                                refine tr_aload_n dX12_readAlp_71 rfl ?_
                                refine q_iconst dX12_readAlp_72 (by decide) ?_
                                intro v3044 h3045
                                refine q_bipush dX12_readAlp_73 (by decide +kernel) ?_
                                intro v3046 h3047
                                refine q_callVi hE (M' := mX12_readWhole) (as := [_, _]) dX12_readAlp_75 lk12_161 inX12_readWhole seX12_readWhole myX12_readWhole (by decide) ⟨by decide, by decide⟩ rfl (kR15 hS3032.1 ta0) (Nat.le_of_ble_eq_true rfl) rfl rfl (by decide) (by decide) (k_X12_readWhole hS3032.1 ta0) ?_
                                rintro v3052 cn' K' N' I3048 R3049 L3050 ⟨rfl, rfl, rfl, rfl, g3051, p3053, w3054, -⟩
                                have hS3055 := hS3032.tr g3051 (by decide +kernel) (by decide +kernel)
                                have c3056 : I3048 a1 0 = v29 := (g3051.cell ta1 (by decide +kernel)).trans c3033
                                have c3057 : I3048 a1 1 = v33 := (g3051.cell ta1 (by decide +kernel)).trans c3034
                                have b3058 : 0 ≤ v3052.toInt ∧ v3052.toInt ≤ 99 := by omega
                                clear p3053
                                have hO3059 : FrO 14 a1 T I0 I3048 := hO3035.st g3051 (by decide +kernel)
                                have ov3060 := w3054.over (by rw [c3038]; omega)
                                obtain ⟨v3061, c3062⟩ : ∃ v, I3048 a0 9 = v := ⟨_, rfl⟩
                                have b3063 := iv15_9 hS3055.1 ta0 c3062
                                obtain ⟨v3064, c3065⟩ : ∃ v, I3048 a0 13 = v := ⟨_, rfl⟩
                                obtain ⟨v3066, c3067⟩ : ∃ v, I3048 a0 14 = v := ⟨_, rfl⟩
                                (try rw [c3062] at ov3060)
                                (try rw [c3065] at ov3060)
                                (try rw [c3067] at ov3060)
                                (try rw [c3038] at ov3060)
                                (try rw [c3041] at ov3060)
                                (try rw [c3043] at ov3060)
                                refine q_iast dX12_readAlp_78 (kR53 hS3055.1 ta66) (ti_in (nR53 hS3055.1 ta66) (by omega) (by omega)) hS3055 ta66 (iokF rfl) rfl (by rfl) ?_
                                intro I3068 hS3069 e3071 f3070
                                have c3072 : I3068 a1 0 = v29 := (f3070 _ _ (fun q => by have z := ta1; rw [q.1, ta66] at z; exact absurd z (by decide))).trans c3056
                                have c3073 : I3068 a1 1 = v33 := (f3070 _ _ (fun q => by have z := ta1; rw [q.1, ta66] at z; exact absurd z (by decide))).trans c3057
                                have c3074 : I3068 a0 9 = v3061 := (f3070 _ _ (fun q => by have z := ta0; rw [q.1, ta66] at z; exact absurd z (by decide))).trans c3062
                                have c3075 : I3068 a0 13 = v3064 := (f3070 _ _ (fun q => by have z := ta0; rw [q.1, ta66] at z; exact absurd z (by decide))).trans c3065
                                have c3076 : I3068 a0 14 = v3066 := (f3070 _ _ (fun q => by have z := ta0; rw [q.1, ta66] at z; exact absurd z (by decide))).trans c3067
                                have hO3077 : FrO 14 a1 T I0 I3068 := hO3059.put f3070 ta66 (Or.inl (by decide))
                                refine q_iincE dX12_readAlp_79 rfl (by decide) (by decide) (by intros; omega) ?_
                                intro v3078 h3079
                                refine tr_goto 48 dX12_readAlp_82 (by decide) ?_
                                refine tr_iload_n dX12_readAlp_48 rfl ?_
                                refine q_iconst dX12_readAlp_49 (by decide) ?_
                                intro v3080 h3081
                                refine q_icmp_ge 85 dX12_readAlp_50 (by decide) (fun h3082 => ?_) (fun h3082 => ?_)
                                · skip
                                  refine tr_aload_n dX12_readAlp_85 rfl ?_
                                  refine q_getI dX12_readAlp_86 fl12_99 (kR15 hS3069.1 ta0) c3074 ?_
                                  refine q_iconst dX12_readAlp_89 (by decide) ?_
                                  intro v3083 h3084
                                  refine q_icmp_ne 94 dX12_readAlp_90 (by decide) (fun h3085 => ?_) (fun h3085 => ?_)
                                  · skip
                                    exfalso; omega
                                  · skip
                                    have eF := hF.eq
                                    have eP := hP.eq
                                    obtain ⟨v3086, c3087⟩ : ∃ v, I3068 a0 10 = v := ⟨_, rfl⟩
                                    have b3088 := iv15_10 hS3069.1 ta0 c3087
                                    obtain ⟨v3089, c3090⟩ : ∃ v, I3068 a0 11 = v := ⟨_, rfl⟩
                                    obtain ⟨y3091, c3092⟩ : ∃ v, L3050 a0 15 = v := ⟨_, rfl⟩
                                    obtain ⟨v3093, c3094⟩ : ∃ v, I3068 a0 12 = v := ⟨_, rfl⟩
                                    obtain ⟨v3095, c3096⟩ : ∃ v, I3068 a0 8 = v := ⟨_, rfl⟩
                                    have b3097 := iv15_8 hS3069.1 ta0 c3096
                                    exact tr_vret hZ dX12_readAlp_93 rfl (by decide) (by decide) ⟨rfl, rfl, rfl, rfl, rfl, hS3069, (fun b hb => (Option.some.inj (d2.symm.trans hb)) ▸ (((((((((((((((((((FrM.rf (R := R0) (b := a1) (T := T)).st g74 (by decide +kernel)).st g126 (by decide +kernel)).st g196 (by decide +kernel)).st g262 (by decide +kernel)).st g318 (by decide +kernel)).pu f2830 (by decide) (by decide) d67).st g2849 (by decide +kernel)).st g2871 (by decide +kernel)).pu f2890 (by decide) (by decide) d67).st g2909 (by decide +kernel)).st g2931 (by decide +kernel)).pu f2950 (by decide) (by decide) d67).st g2969 (by decide +kernel)).st g2991 (by decide +kernel)).pu f3010 (by decide) (by decide) d67).st g3029 (by decide +kernel)).st g3051 (by decide +kernel)).pu f3070 (by decide) (by decide) d67)), (fun dr hd => (Option.some.inj (d2.symm.trans hd)) ▸ hO3077), (Or.inr (⟨(by (try rw [w109]); first | done | with_reducible assumption | omega), (by (try rw [w109]); (try rw [c3074]); first | done | with_reducible assumption | omega), (by (try rw [w109]); (try rw [c3075]); first | done | with_reducible assumption | omega), (by (try rw [w109]); (try rw [c3076]); first | done | with_reducible assumption | omega), trivial⟩)), trivial⟩
                                · skip
                                  exfalso; omega
            · skip
              exfalso; omega
        · skip
          obtain ⟨v3098, c3099⟩ : ∃ v, I259 a0 9 = v := ⟨_, rfl⟩
          have b3100 := iv15_9 hS267.1 ta0 c3099
          rw [c3099] at p283
          obtain ⟨v3101, c3102⟩ : ∃ v, I259 a0 13 = v := ⟨_, rfl⟩
          rw [c3102] at p284
          obtain ⟨v3103, c3104⟩ : ∃ v, I259 a0 14 = v := ⟨_, rfl⟩
          rw [c3104] at p285
          replace hF := hF.pos (by omega)
          replace hP := hP.pos (by omega)
          refine q_iconst dX12_readAlp_46 (by decide) ?_
          intro v3105 h3106
          refine tr_istore_n dX12_readAlp_47 (by decide) (by decide) ?_
          refine tr_iload_n dX12_readAlp_48 rfl ?_
          refine q_iconst dX12_readAlp_49 (by decide) ?_
          intro v3107 h3108
          refine q_icmp_ge 85 dX12_readAlp_50 (by decide) (fun h3109 => ?_) (fun h3109 => ?_)
          · skip
            exfalso; omega
          · skip
            refine tr_iload_n dX12_readAlp_53 rfl ?_
            refine q_if_le 63 dX12_readAlp_54 (by decide) (fun h3110 => ?_) (fun h3110 => ?_)
            · skip
              refine tr_aload_n dX12_readAlp_63 rfl ?_
              refine tr_getR dX12_readAlp_64 fl12_188 (kR15 hS267.1 ta0) d2 ?_
              refine tr_getR dX12_readAlp_67 fl12_260 (kR14 hS267.1 ta1) d67 ?_
              refine tr_iload_n dX12_readAlp_70 rfl ?_
              refine tr_aload_n dX12_readAlp_71 rfl ?_
              refine q_iconst dX12_readAlp_72 (by decide) ?_
              intro v3111 h3112
              refine q_bipush dX12_readAlp_73 (by decide +kernel) ?_
              intro v3113 h3114
              refine q_callVi hE (M' := mX12_readWhole) (as := [_, _]) dX12_readAlp_75 lk12_161 inX12_readWhole seX12_readWhole myX12_readWhole (by decide) ⟨by decide, by decide⟩ rfl (kR15 hS267.1 ta0) (Nat.le_of_ble_eq_true rfl) rfl rfl (by decide) (by decide) (k_X12_readWhole hS267.1 ta0) ?_
              rintro v3119 cn' K' N' I3115 R3116 L3117 ⟨rfl, rfl, rfl, rfl, g3118, p3120, w3121, -⟩
              have hS3122 := hS267.tr g3118 (by decide +kernel) (by decide +kernel)
              have c3123 : I3115 a1 0 = v29 := (g3118.cell ta1 (by decide +kernel)).trans c268
              have c3124 : I3115 a1 1 = v33 := (g3118.cell ta1 (by decide +kernel)).trans c269
              have b3125 : 0 ≤ v3119.toInt ∧ v3119.toInt ≤ 99 := by omega
              clear p3120
              have hO3126 : FrO 14 a1 T I0 I3115 := hO270.st g3118 (by decide +kernel)
              have ov3127 := w3121.over (by rw [c3099]; omega)
              obtain ⟨v3128, c3129⟩ : ∃ v, I3115 a0 9 = v := ⟨_, rfl⟩
              have b3130 := iv15_9 hS3122.1 ta0 c3129
              obtain ⟨v3131, c3132⟩ : ∃ v, I3115 a0 13 = v := ⟨_, rfl⟩
              obtain ⟨v3133, c3134⟩ : ∃ v, I3115 a0 14 = v := ⟨_, rfl⟩
              (try rw [c3129] at ov3127)
              (try rw [c3132] at ov3127)
              (try rw [c3134] at ov3127)
              (try rw [c3099] at ov3127)
              (try rw [c3102] at ov3127)
              (try rw [c3104] at ov3127)
              refine q_iast dX12_readAlp_78 (kR53 hS3122.1 ta66) (ti_in (nR53 hS3122.1 ta66) (by omega) (by omega)) hS3122 ta66 (iokF rfl) rfl (by rfl) ?_
              intro I3135 hS3136 e3138 f3137
              have c3139 : I3135 a1 0 = v29 := (f3137 _ _ (fun q => by have z := ta1; rw [q.1, ta66] at z; exact absurd z (by decide))).trans c3123
              have c3140 : I3135 a1 1 = v33 := (f3137 _ _ (fun q => by have z := ta1; rw [q.1, ta66] at z; exact absurd z (by decide))).trans c3124
              have c3141 : I3135 a0 9 = v3128 := (f3137 _ _ (fun q => by have z := ta0; rw [q.1, ta66] at z; exact absurd z (by decide))).trans c3129
              have c3142 : I3135 a0 13 = v3131 := (f3137 _ _ (fun q => by have z := ta0; rw [q.1, ta66] at z; exact absurd z (by decide))).trans c3132
              have c3143 : I3135 a0 14 = v3133 := (f3137 _ _ (fun q => by have z := ta0; rw [q.1, ta66] at z; exact absurd z (by decide))).trans c3134
              have hO3144 : FrO 14 a1 T I0 I3135 := hO3126.put f3137 ta66 (Or.inl (by decide))
              refine q_iincE dX12_readAlp_79 rfl (by decide) (by decide) (by intros; omega) ?_
              intro v3145 h3146
              refine tr_goto 48 dX12_readAlp_82 (by decide) ?_
              refine tr_iload_n dX12_readAlp_48 rfl ?_
              refine q_iconst dX12_readAlp_49 (by decide) ?_
              intro v3147 h3148
              refine q_icmp_ge 85 dX12_readAlp_50 (by decide) (fun h3149 => ?_) (fun h3149 => ?_)
              · skip
                exfalso; omega
              · skip
                refine tr_iload_n dX12_readAlp_53 rfl ?_
                refine q_if_le 63 dX12_readAlp_54 (by decide) (fun h3150 => ?_) (fun h3150 => ?_)
                · skip
                  exfalso; omega
                · skip
                  refine tr_aload_n dX12_readAlp_57 rfl ?_
                  refine q_bipush dX12_readAlp_58 (by decide +kernel) ?_
                  intro v3151 h3152
                  refine q_callVv hE (M' := mX12_needsSign) (as := [_]) dX12_readAlp_60 lk12_257 inX12_needsSign seX12_needsSign myX12_needsSign (by decide) ⟨by decide, by decide⟩ rfl (kR15 hS3136.1 ta0) (Nat.le_of_ble_eq_true rfl) rfl rfl (by decide) (by decide) (k_X12_needsSign hS3136.1 ta0) ?_
                  rintro cn' K' N' I3153 R3154 L3155 ⟨rfl, rfl, rfl, rfl, g3156, w3158, -⟩
                  have hS3159 := hS3136.tr g3156 (by decide +kernel) (by decide +kernel)
                  have c3160 : I3153 a1 0 = v29 := (g3156.cell ta1 (by decide +kernel)).trans c3139
                  have c3161 : I3153 a1 1 = v33 := (g3156.cell ta1 (by decide +kernel)).trans c3140
                  have hO3162 : FrO 14 a1 T I0 I3153 := hO3144.st g3156 (by decide +kernel)
                  have ov3163 := w3158.over (by rw [c3141]; omega)
                  obtain ⟨v3164, c3165⟩ : ∃ v, I3153 a0 9 = v := ⟨_, rfl⟩
                  have b3166 := iv15_9 hS3159.1 ta0 c3165
                  obtain ⟨v3167, c3168⟩ : ∃ v, I3153 a0 13 = v := ⟨_, rfl⟩
                  obtain ⟨v3169, c3170⟩ : ∃ v, I3153 a0 14 = v := ⟨_, rfl⟩
                  (try rw [c3165] at ov3163)
                  (try rw [c3168] at ov3163)
                  (try rw [c3170] at ov3163)
                  (try rw [c3141] at ov3163)
                  (try rw [c3142] at ov3163)
                  (try rw [c3143] at ov3163)
                  refine tr_aload_n dX12_readAlp_63 rfl ?_
                  refine tr_getR dX12_readAlp_64 fl12_188 (kR15 hS3159.1 ta0) d2 ?_
                  refine tr_getR dX12_readAlp_67 fl12_260 (kR14 hS3159.1 ta1) d67 ?_
                  refine tr_iload_n dX12_readAlp_70 rfl ?_
                  refine tr_aload_n dX12_readAlp_71 rfl ?_
                  refine q_iconst dX12_readAlp_72 (by decide) ?_
                  intro v3171 h3172
                  refine q_bipush dX12_readAlp_73 (by decide +kernel) ?_
                  intro v3173 h3174
                  refine q_callVi hE (M' := mX12_readWhole) (as := [_, _]) dX12_readAlp_75 lk12_161 inX12_readWhole seX12_readWhole myX12_readWhole (by decide) ⟨by decide, by decide⟩ rfl (kR15 hS3159.1 ta0) (Nat.le_of_ble_eq_true rfl) rfl rfl (by decide) (by decide) (k_X12_readWhole hS3159.1 ta0) ?_
                  rintro v3179 cn' K' N' I3175 R3176 L3177 ⟨rfl, rfl, rfl, rfl, g3178, p3180, w3181, -⟩
                  have hS3182 := hS3159.tr g3178 (by decide +kernel) (by decide +kernel)
                  have c3183 : I3175 a1 0 = v29 := (g3178.cell ta1 (by decide +kernel)).trans c3160
                  have c3184 : I3175 a1 1 = v33 := (g3178.cell ta1 (by decide +kernel)).trans c3161
                  have b3185 : 0 ≤ v3179.toInt ∧ v3179.toInt ≤ 99 := by omega
                  clear p3180
                  have hO3186 : FrO 14 a1 T I0 I3175 := hO3162.st g3178 (by decide +kernel)
                  have ov3187 := w3181.over (by rw [c3165]; omega)
                  obtain ⟨v3188, c3189⟩ : ∃ v, I3175 a0 9 = v := ⟨_, rfl⟩
                  have b3190 := iv15_9 hS3182.1 ta0 c3189
                  obtain ⟨v3191, c3192⟩ : ∃ v, I3175 a0 13 = v := ⟨_, rfl⟩
                  obtain ⟨v3193, c3194⟩ : ∃ v, I3175 a0 14 = v := ⟨_, rfl⟩
                  (try rw [c3189] at ov3187)
                  (try rw [c3192] at ov3187)
                  (try rw [c3194] at ov3187)
                  (try rw [c3165] at ov3187)
                  (try rw [c3168] at ov3187)
                  (try rw [c3170] at ov3187)
                  refine q_iast dX12_readAlp_78 (kR53 hS3182.1 ta66) (ti_in (nR53 hS3182.1 ta66) (by omega) (by omega)) hS3182 ta66 (iokF rfl) rfl (by rfl) ?_
                  intro I3195 hS3196 e3198 f3197
                  have c3199 : I3195 a1 0 = v29 := (f3197 _ _ (fun q => by have z := ta1; rw [q.1, ta66] at z; exact absurd z (by decide))).trans c3183
                  have c3200 : I3195 a1 1 = v33 := (f3197 _ _ (fun q => by have z := ta1; rw [q.1, ta66] at z; exact absurd z (by decide))).trans c3184
                  have c3201 : I3195 a0 9 = v3188 := (f3197 _ _ (fun q => by have z := ta0; rw [q.1, ta66] at z; exact absurd z (by decide))).trans c3189
                  have c3202 : I3195 a0 13 = v3191 := (f3197 _ _ (fun q => by have z := ta0; rw [q.1, ta66] at z; exact absurd z (by decide))).trans c3192
                  have c3203 : I3195 a0 14 = v3193 := (f3197 _ _ (fun q => by have z := ta0; rw [q.1, ta66] at z; exact absurd z (by decide))).trans c3194
                  have hO3204 : FrO 14 a1 T I0 I3195 := hO3186.put f3197 ta66 (Or.inl (by decide))
                  refine q_iincE dX12_readAlp_79 rfl (by decide) (by decide) (by intros; omega) ?_
                  intro v3205 h3206
                  refine tr_goto 48 dX12_readAlp_82 (by decide) ?_
                  refine tr_iload_n dX12_readAlp_48 rfl ?_
                  refine q_iconst dX12_readAlp_49 (by decide) ?_
                  intro v3207 h3208
                  refine q_icmp_ge 85 dX12_readAlp_50 (by decide) (fun h3209 => ?_) (fun h3209 => ?_)
                  · skip
                    exfalso; omega
                  · skip
                    refine tr_iload_n dX12_readAlp_53 rfl ?_
                    refine q_if_le 63 dX12_readAlp_54 (by decide) (fun h3210 => ?_) (fun h3210 => ?_)
                    · skip
                      exfalso; omega
                    · skip
                      refine tr_aload_n dX12_readAlp_57 rfl ?_
                      refine q_bipush dX12_readAlp_58 (by decide +kernel) ?_
                      intro v3211 h3212
                      refine q_callVv hE (M' := mX12_needsSign) (as := [_]) dX12_readAlp_60 lk12_257 inX12_needsSign seX12_needsSign myX12_needsSign (by decide) ⟨by decide, by decide⟩ rfl (kR15 hS3196.1 ta0) (Nat.le_of_ble_eq_true rfl) rfl rfl (by decide) (by decide) (k_X12_needsSign hS3196.1 ta0) ?_
                      rintro cn' K' N' I3213 R3214 L3215 ⟨rfl, rfl, rfl, rfl, g3216, w3218, -⟩
                      have hS3219 := hS3196.tr g3216 (by decide +kernel) (by decide +kernel)
                      have c3220 : I3213 a1 0 = v29 := (g3216.cell ta1 (by decide +kernel)).trans c3199
                      have c3221 : I3213 a1 1 = v33 := (g3216.cell ta1 (by decide +kernel)).trans c3200
                      have hO3222 : FrO 14 a1 T I0 I3213 := hO3204.st g3216 (by decide +kernel)
                      have ov3223 := w3218.over (by rw [c3201]; omega)
                      obtain ⟨v3224, c3225⟩ : ∃ v, I3213 a0 9 = v := ⟨_, rfl⟩
                      have b3226 := iv15_9 hS3219.1 ta0 c3225
                      obtain ⟨v3227, c3228⟩ : ∃ v, I3213 a0 13 = v := ⟨_, rfl⟩
                      obtain ⟨v3229, c3230⟩ : ∃ v, I3213 a0 14 = v := ⟨_, rfl⟩
                      (try rw [c3225] at ov3223)
                      (try rw [c3228] at ov3223)
                      (try rw [c3230] at ov3223)
                      (try rw [c3201] at ov3223)
                      (try rw [c3202] at ov3223)
                      (try rw [c3203] at ov3223)
                      refine tr_aload_n dX12_readAlp_63 rfl ?_
                      refine tr_getR dX12_readAlp_64 fl12_188 (kR15 hS3219.1 ta0) d2 ?_
                      refine tr_getR dX12_readAlp_67 fl12_260 (kR14 hS3219.1 ta1) d67 ?_
                      refine tr_iload_n dX12_readAlp_70 rfl ?_
                      refine tr_aload_n dX12_readAlp_71 rfl ?_
                      refine q_iconst dX12_readAlp_72 (by decide) ?_
                      intro v3231 h3232
                      refine q_bipush dX12_readAlp_73 (by decide +kernel) ?_
                      intro v3233 h3234
                      refine q_callVi hE (M' := mX12_readWhole) (as := [_, _]) dX12_readAlp_75 lk12_161 inX12_readWhole seX12_readWhole myX12_readWhole (by decide) ⟨by decide, by decide⟩ rfl (kR15 hS3219.1 ta0) (Nat.le_of_ble_eq_true rfl) rfl rfl (by decide) (by decide) (k_X12_readWhole hS3219.1 ta0) ?_
                      rintro v3239 cn' K' N' I3235 R3236 L3237 ⟨rfl, rfl, rfl, rfl, g3238, p3240, w3241, -⟩
                      have hS3242 := hS3219.tr g3238 (by decide +kernel) (by decide +kernel)
                      have c3243 : I3235 a1 0 = v29 := (g3238.cell ta1 (by decide +kernel)).trans c3220
                      have c3244 : I3235 a1 1 = v33 := (g3238.cell ta1 (by decide +kernel)).trans c3221
                      have b3245 : 0 ≤ v3239.toInt ∧ v3239.toInt ≤ 99 := by omega
                      clear p3240
                      have hO3246 : FrO 14 a1 T I0 I3235 := hO3222.st g3238 (by decide +kernel)
                      have ov3247 := w3241.over (by rw [c3225]; omega)
                      obtain ⟨v3248, c3249⟩ : ∃ v, I3235 a0 9 = v := ⟨_, rfl⟩
                      have b3250 := iv15_9 hS3242.1 ta0 c3249
                      obtain ⟨v3251, c3252⟩ : ∃ v, I3235 a0 13 = v := ⟨_, rfl⟩
                      obtain ⟨v3253, c3254⟩ : ∃ v, I3235 a0 14 = v := ⟨_, rfl⟩
                      (try rw [c3249] at ov3247)
                      (try rw [c3252] at ov3247)
                      (try rw [c3254] at ov3247)
                      (try rw [c3225] at ov3247)
                      (try rw [c3228] at ov3247)
                      (try rw [c3230] at ov3247)
                      refine q_iast dX12_readAlp_78 (kR53 hS3242.1 ta66) (ti_in (nR53 hS3242.1 ta66) (by omega) (by omega)) hS3242 ta66 (iokF rfl) rfl (by rfl) ?_
                      intro I3255 hS3256 e3258 f3257
                      have c3259 : I3255 a1 0 = v29 := (f3257 _ _ (fun q => by have z := ta1; rw [q.1, ta66] at z; exact absurd z (by decide))).trans c3243
                      have c3260 : I3255 a1 1 = v33 := (f3257 _ _ (fun q => by have z := ta1; rw [q.1, ta66] at z; exact absurd z (by decide))).trans c3244
                      have c3261 : I3255 a0 9 = v3248 := (f3257 _ _ (fun q => by have z := ta0; rw [q.1, ta66] at z; exact absurd z (by decide))).trans c3249
                      have c3262 : I3255 a0 13 = v3251 := (f3257 _ _ (fun q => by have z := ta0; rw [q.1, ta66] at z; exact absurd z (by decide))).trans c3252
                      have c3263 : I3255 a0 14 = v3253 := (f3257 _ _ (fun q => by have z := ta0; rw [q.1, ta66] at z; exact absurd z (by decide))).trans c3254
                      have hO3264 : FrO 14 a1 T I0 I3255 := hO3246.put f3257 ta66 (Or.inl (by decide))
                      refine q_iincE dX12_readAlp_79 rfl (by decide) (by decide) (by intros; omega) ?_
                      intro v3265 h3266
                      refine tr_goto 48 dX12_readAlp_82 (by decide) ?_
                      refine tr_iload_n dX12_readAlp_48 rfl ?_
                      refine q_iconst dX12_readAlp_49 (by decide) ?_
                      intro v3267 h3268
                      refine q_icmp_ge 85 dX12_readAlp_50 (by decide) (fun h3269 => ?_) (fun h3269 => ?_)
                      · skip
                        exfalso; omega
                      · skip
                        refine tr_iload_n dX12_readAlp_53 rfl ?_
                        refine q_if_le 63 dX12_readAlp_54 (by decide) (fun h3270 => ?_) (fun h3270 => ?_)
                        · skip
                          exfalso; omega
                        · skip
                          refine tr_aload_n dX12_readAlp_57 rfl ?_
                          refine q_bipush dX12_readAlp_58 (by decide +kernel) ?_
                          intro v3271 h3272
                          refine q_callVv hE (M' := mX12_needsSign) (as := [_]) dX12_readAlp_60 lk12_257 inX12_needsSign seX12_needsSign myX12_needsSign (by decide) ⟨by decide, by decide⟩ rfl (kR15 hS3256.1 ta0) (Nat.le_of_ble_eq_true rfl) rfl rfl (by decide) (by decide) (k_X12_needsSign hS3256.1 ta0) ?_
                          rintro cn' K' N' I3273 R3274 L3275 ⟨rfl, rfl, rfl, rfl, g3276, w3278, -⟩
                          have hS3279 := hS3256.tr g3276 (by decide +kernel) (by decide +kernel)
                          have c3280 : I3273 a1 0 = v29 := (g3276.cell ta1 (by decide +kernel)).trans c3259
                          have c3281 : I3273 a1 1 = v33 := (g3276.cell ta1 (by decide +kernel)).trans c3260
                          have hO3282 : FrO 14 a1 T I0 I3273 := hO3264.st g3276 (by decide +kernel)
                          have ov3283 := w3278.over (by rw [c3261]; omega)
                          obtain ⟨v3284, c3285⟩ : ∃ v, I3273 a0 9 = v := ⟨_, rfl⟩
                          have b3286 := iv15_9 hS3279.1 ta0 c3285
                          obtain ⟨v3287, c3288⟩ : ∃ v, I3273 a0 13 = v := ⟨_, rfl⟩
                          obtain ⟨v3289, c3290⟩ : ∃ v, I3273 a0 14 = v := ⟨_, rfl⟩
                          (try rw [c3285] at ov3283)
                          (try rw [c3288] at ov3283)
                          (try rw [c3290] at ov3283)
                          (try rw [c3261] at ov3283)
                          (try rw [c3262] at ov3283)
                          (try rw [c3263] at ov3283)
                          refine tr_aload_n dX12_readAlp_63 rfl ?_
                          refine tr_getR dX12_readAlp_64 fl12_188 (kR15 hS3279.1 ta0) d2 ?_
                          refine tr_getR dX12_readAlp_67 fl12_260 (kR14 hS3279.1 ta1) d67 ?_
                          refine tr_iload_n dX12_readAlp_70 rfl ?_
                          refine tr_aload_n dX12_readAlp_71 rfl ?_
                          refine q_iconst dX12_readAlp_72 (by decide) ?_
                          intro v3291 h3292
                          refine q_bipush dX12_readAlp_73 (by decide +kernel) ?_
                          intro v3293 h3294
                          refine q_callVi hE (M' := mX12_readWhole) (as := [_, _]) dX12_readAlp_75 lk12_161 inX12_readWhole seX12_readWhole myX12_readWhole (by decide) ⟨by decide, by decide⟩ rfl (kR15 hS3279.1 ta0) (Nat.le_of_ble_eq_true rfl) rfl rfl (by decide) (by decide) (k_X12_readWhole hS3279.1 ta0) ?_
                          rintro v3299 cn' K' N' I3295 R3296 L3297 ⟨rfl, rfl, rfl, rfl, g3298, p3300, w3301, -⟩
                          have hS3302 := hS3279.tr g3298 (by decide +kernel) (by decide +kernel)
                          have c3303 : I3295 a1 0 = v29 := (g3298.cell ta1 (by decide +kernel)).trans c3280
                          have c3304 : I3295 a1 1 = v33 := (g3298.cell ta1 (by decide +kernel)).trans c3281
                          have b3305 : 0 ≤ v3299.toInt ∧ v3299.toInt ≤ 99 := by omega
                          clear p3300
                          have hO3306 : FrO 14 a1 T I0 I3295 := hO3282.st g3298 (by decide +kernel)
                          have ov3307 := w3301.over (by rw [c3285]; omega)
                          obtain ⟨v3308, c3309⟩ : ∃ v, I3295 a0 9 = v := ⟨_, rfl⟩
                          have b3310 := iv15_9 hS3302.1 ta0 c3309
                          obtain ⟨v3311, c3312⟩ : ∃ v, I3295 a0 13 = v := ⟨_, rfl⟩
                          obtain ⟨v3313, c3314⟩ : ∃ v, I3295 a0 14 = v := ⟨_, rfl⟩
                          (try rw [c3309] at ov3307)
                          (try rw [c3312] at ov3307)
                          (try rw [c3314] at ov3307)
                          (try rw [c3285] at ov3307)
                          (try rw [c3288] at ov3307)
                          (try rw [c3290] at ov3307)
                          refine q_iast dX12_readAlp_78 (kR53 hS3302.1 ta66) (ti_in (nR53 hS3302.1 ta66) (by omega) (by omega)) hS3302 ta66 (iokF rfl) rfl (by rfl) ?_
                          intro I3315 hS3316 e3318 f3317
                          have c3319 : I3315 a1 0 = v29 := (f3317 _ _ (fun q => by have z := ta1; rw [q.1, ta66] at z; exact absurd z (by decide))).trans c3303
                          have c3320 : I3315 a1 1 = v33 := (f3317 _ _ (fun q => by have z := ta1; rw [q.1, ta66] at z; exact absurd z (by decide))).trans c3304
                          have c3321 : I3315 a0 9 = v3308 := (f3317 _ _ (fun q => by have z := ta0; rw [q.1, ta66] at z; exact absurd z (by decide))).trans c3309
                          have c3322 : I3315 a0 13 = v3311 := (f3317 _ _ (fun q => by have z := ta0; rw [q.1, ta66] at z; exact absurd z (by decide))).trans c3312
                          have c3323 : I3315 a0 14 = v3313 := (f3317 _ _ (fun q => by have z := ta0; rw [q.1, ta66] at z; exact absurd z (by decide))).trans c3314
                          have hO3324 : FrO 14 a1 T I0 I3315 := hO3306.put f3317 ta66 (Or.inl (by decide))
                          refine q_iincE dX12_readAlp_79 rfl (by decide) (by decide) (by intros; omega) ?_
                          intro v3325 h3326
                          refine tr_goto 48 dX12_readAlp_82 (by decide) ?_
                          refine tr_iload_n dX12_readAlp_48 rfl ?_
                          refine q_iconst dX12_readAlp_49 (by decide) ?_
                          intro v3327 h3328
                          refine q_icmp_ge 85 dX12_readAlp_50 (by decide) (fun h3329 => ?_) (fun h3329 => ?_)
                          · skip
                            exfalso; omega
                          · skip
                            refine tr_iload_n dX12_readAlp_53 rfl ?_
                            refine q_if_le 63 dX12_readAlp_54 (by decide) (fun h3330 => ?_) (fun h3330 => ?_)
                            · skip
                              exfalso; omega
                            · skip
                              refine tr_aload_n dX12_readAlp_57 rfl ?_
                              refine q_bipush dX12_readAlp_58 (by decide +kernel) ?_
                              intro v3331 h3332
                              refine q_callVv hE (M' := mX12_needsSign) (as := [_]) dX12_readAlp_60 lk12_257 inX12_needsSign seX12_needsSign myX12_needsSign (by decide) ⟨by decide, by decide⟩ rfl (kR15 hS3316.1 ta0) (Nat.le_of_ble_eq_true rfl) rfl rfl (by decide) (by decide) (k_X12_needsSign hS3316.1 ta0) ?_
                              rintro cn' K' N' I3333 R3334 L3335 ⟨rfl, rfl, rfl, rfl, g3336, w3338, -⟩
                              have hS3339 := hS3316.tr g3336 (by decide +kernel) (by decide +kernel)
                              have c3340 : I3333 a1 0 = v29 := (g3336.cell ta1 (by decide +kernel)).trans c3319
                              have c3341 : I3333 a1 1 = v33 := (g3336.cell ta1 (by decide +kernel)).trans c3320
                              have hO3342 : FrO 14 a1 T I0 I3333 := hO3324.st g3336 (by decide +kernel)
                              have ov3343 := w3338.over (by rw [c3321]; omega)
                              obtain ⟨v3344, c3345⟩ : ∃ v, I3333 a0 9 = v := ⟨_, rfl⟩
                              have b3346 := iv15_9 hS3339.1 ta0 c3345
                              obtain ⟨v3347, c3348⟩ : ∃ v, I3333 a0 13 = v := ⟨_, rfl⟩
                              obtain ⟨v3349, c3350⟩ : ∃ v, I3333 a0 14 = v := ⟨_, rfl⟩
                              (try rw [c3345] at ov3343)
                              (try rw [c3348] at ov3343)
                              (try rw [c3350] at ov3343)
                              (try rw [c3321] at ov3343)
                              (try rw [c3322] at ov3343)
                              (try rw [c3323] at ov3343)
                              refine tr_aload_n dX12_readAlp_63 rfl ?_
                              refine tr_getR dX12_readAlp_64 fl12_188 (kR15 hS3339.1 ta0) d2 ?_
                              refine tr_getR dX12_readAlp_67 fl12_260 (kR14 hS3339.1 ta1) d67 ?_
                              refine tr_iload_n dX12_readAlp_70 rfl ?_
                              refine tr_aload_n dX12_readAlp_71 rfl ?_
                              refine q_iconst dX12_readAlp_72 (by decide) ?_
                              intro v3351 h3352
                              refine q_bipush dX12_readAlp_73 (by decide +kernel) ?_
                              intro v3353 h3354
                              refine q_callVi hE (M' := mX12_readWhole) (as := [_, _]) dX12_readAlp_75 lk12_161 inX12_readWhole seX12_readWhole myX12_readWhole (by decide) ⟨by decide, by decide⟩ rfl (kR15 hS3339.1 ta0) (Nat.le_of_ble_eq_true rfl) rfl rfl (by decide) (by decide) (k_X12_readWhole hS3339.1 ta0) ?_
                              rintro v3359 cn' K' N' I3355 R3356 L3357 ⟨rfl, rfl, rfl, rfl, g3358, p3360, w3361, -⟩
                              have hS3362 := hS3339.tr g3358 (by decide +kernel) (by decide +kernel)
                              have c3363 : I3355 a1 0 = v29 := (g3358.cell ta1 (by decide +kernel)).trans c3340
                              have c3364 : I3355 a1 1 = v33 := (g3358.cell ta1 (by decide +kernel)).trans c3341
                              have b3365 : 0 ≤ v3359.toInt ∧ v3359.toInt ≤ 99 := by omega
                              clear p3360
                              have hO3366 : FrO 14 a1 T I0 I3355 := hO3342.st g3358 (by decide +kernel)
                              have ov3367 := w3361.over (by rw [c3345]; omega)
                              obtain ⟨v3368, c3369⟩ : ∃ v, I3355 a0 9 = v := ⟨_, rfl⟩
                              have b3370 := iv15_9 hS3362.1 ta0 c3369
                              obtain ⟨v3371, c3372⟩ : ∃ v, I3355 a0 13 = v := ⟨_, rfl⟩
                              obtain ⟨v3373, c3374⟩ : ∃ v, I3355 a0 14 = v := ⟨_, rfl⟩
                              (try rw [c3369] at ov3367)
                              (try rw [c3372] at ov3367)
                              (try rw [c3374] at ov3367)
                              (try rw [c3345] at ov3367)
                              (try rw [c3348] at ov3367)
                              (try rw [c3350] at ov3367)
                              refine q_iast dX12_readAlp_78 (kR53 hS3362.1 ta66) (ti_in (nR53 hS3362.1 ta66) (by omega) (by omega)) hS3362 ta66 (iokF rfl) rfl (by rfl) ?_
                              intro I3375 hS3376 e3378 f3377
                              have c3379 : I3375 a1 0 = v29 := (f3377 _ _ (fun q => by have z := ta1; rw [q.1, ta66] at z; exact absurd z (by decide))).trans c3363
                              have c3380 : I3375 a1 1 = v33 := (f3377 _ _ (fun q => by have z := ta1; rw [q.1, ta66] at z; exact absurd z (by decide))).trans c3364
                              have c3381 : I3375 a0 9 = v3368 := (f3377 _ _ (fun q => by have z := ta0; rw [q.1, ta66] at z; exact absurd z (by decide))).trans c3369
                              have c3382 : I3375 a0 13 = v3371 := (f3377 _ _ (fun q => by have z := ta0; rw [q.1, ta66] at z; exact absurd z (by decide))).trans c3372
                              have c3383 : I3375 a0 14 = v3373 := (f3377 _ _ (fun q => by have z := ta0; rw [q.1, ta66] at z; exact absurd z (by decide))).trans c3374
                              have hO3384 : FrO 14 a1 T I0 I3375 := hO3366.put f3377 ta66 (Or.inl (by decide))
                              refine q_iincE dX12_readAlp_79 rfl (by decide) (by decide) (by intros; omega) ?_
                              intro v3385 h3386
                              refine tr_goto 48 dX12_readAlp_82 (by decide) ?_
                              refine tr_iload_n dX12_readAlp_48 rfl ?_
                              refine q_iconst dX12_readAlp_49 (by decide) ?_
                              intro v3387 h3388
                              refine q_icmp_ge 85 dX12_readAlp_50 (by decide) (fun h3389 => ?_) (fun h3389 => ?_)
                              · skip
                                refine tr_aload_n dX12_readAlp_85 rfl ?_
                                refine q_getI dX12_readAlp_86 fl12_99 (kR15 hS3376.1 ta0) c3381 ?_
                                refine q_iconst dX12_readAlp_89 (by decide) ?_
                                intro v3390 h3391
                                refine q_icmp_ne 94 dX12_readAlp_90 (by decide) (fun h3392 => ?_) (fun h3392 => ?_)
                                · skip
                                  exfalso; omega
                                · skip
                                  have eF := hF.eq
                                  have eP := hP.eq
                                  obtain ⟨v3393, c3394⟩ : ∃ v, I3375 a0 10 = v := ⟨_, rfl⟩
                                  have b3395 := iv15_10 hS3376.1 ta0 c3394
                                  obtain ⟨v3396, c3397⟩ : ∃ v, I3375 a0 11 = v := ⟨_, rfl⟩
                                  obtain ⟨y3398, c3399⟩ : ∃ v, L3357 a0 15 = v := ⟨_, rfl⟩
                                  obtain ⟨v3400, c3401⟩ : ∃ v, I3375 a0 12 = v := ⟨_, rfl⟩
                                  obtain ⟨v3402, c3403⟩ : ∃ v, I3375 a0 8 = v := ⟨_, rfl⟩
                                  have b3404 := iv15_8 hS3376.1 ta0 c3403
                                  exact tr_vret hZ dX12_readAlp_93 rfl (by decide) (by decide) ⟨rfl, rfl, rfl, rfl, rfl, hS3376, (fun b hb => (Option.some.inj (d2.symm.trans hb)) ▸ (((((((((((((((((((FrM.rf (R := R0) (b := a1) (T := T)).st g74 (by decide +kernel)).st g126 (by decide +kernel)).st g196 (by decide +kernel)).st g262 (by decide +kernel)).st g3118 (by decide +kernel)).pu f3137 (by decide) (by decide) d67).st g3156 (by decide +kernel)).st g3178 (by decide +kernel)).pu f3197 (by decide) (by decide) d67).st g3216 (by decide +kernel)).st g3238 (by decide +kernel)).pu f3257 (by decide) (by decide) d67).st g3276 (by decide +kernel)).st g3298 (by decide +kernel)).pu f3317 (by decide) (by decide) d67).st g3336 (by decide +kernel)).st g3358 (by decide +kernel)).pu f3377 (by decide) (by decide) d67)), (fun dr hd => (Option.some.inj (d2.symm.trans hd)) ▸ hO3384), (Or.inr (⟨(by (try rw [w109]); first | done | with_reducible assumption | omega), (by (try rw [w109]); (try rw [c3381]); first | done | with_reducible assumption | omega), (by (try rw [w109]); (try rw [c3382]); first | done | with_reducible assumption | omega), (by (try rw [w109]); (try rw [c3383]); first | done | with_reducible assumption | omega), trivial⟩)), trivial⟩
                              · skip
                                exfalso; omega
            · skip
              exfalso; omega
      · skip
        obtain ⟨v3405, c3406⟩ : ∃ v, I193 a0 9 = v := ⟨_, rfl⟩
        have b3407 := iv15_9 hS201.1 ta0 c3406
        rw [c3406] at p222
        obtain ⟨v3408, c3409⟩ : ∃ v, I193 a0 13 = v := ⟨_, rfl⟩
        rw [c3409] at p223
        obtain ⟨v3410, c3411⟩ : ∃ v, I193 a0 14 = v := ⟨_, rfl⟩
        rw [c3411] at p224
        replace hF := hF.pos (by omega)
        replace hP := hP.pos (by omega)
        refine tr_istore_n dX12_readAlp_39 (by decide) (by decide) ?_
        refine tr_aload_n dX12_readAlp_40 rfl ?_
        refine tr_ldcS dX12_readAlp_41 ld12_255 ?_
        refine q_callVv hE (M' := mX12_needs) (as := [_]) dX12_readAlp_43 lk12_157 inX12_needs seX12_needs myX12_needs (by decide) ⟨by decide, by decide⟩ rfl (kR15 hS201.1 ta0) (Nat.le_of_ble_eq_true rfl) rfl rfl (by decide) (by decide) (k_X12_needs hS201.1 ta0 (by decide)) ?_
        rintro cn' K' N' I3412 R3413 L3414 ⟨rfl, rfl, rfl, rfl, g3415, w3417, -⟩
        have hS3418 := hS201.tr g3415 (by decide +kernel) (by decide +kernel)
        have c3419 : I3412 a1 0 = v29 := (g3415.cell ta1 (by decide +kernel)).trans c202
        have c3420 : I3412 a1 1 = v33 := (g3415.cell ta1 (by decide +kernel)).trans c203
        have hO3421 : FrO 14 a1 T I0 I3412 := hO204.st g3415 (by decide +kernel)
        have ov3422 := w3417.over (by rw [c3406]; omega)
        obtain ⟨v3423, c3424⟩ : ∃ v, I3412 a0 9 = v := ⟨_, rfl⟩
        have b3425 := iv15_9 hS3418.1 ta0 c3424
        obtain ⟨v3426, c3427⟩ : ∃ v, I3412 a0 13 = v := ⟨_, rfl⟩
        obtain ⟨v3428, c3429⟩ : ∃ v, I3412 a0 14 = v := ⟨_, rfl⟩
        (try rw [c3424] at ov3422)
        (try rw [c3427] at ov3422)
        (try rw [c3429] at ov3422)
        (try rw [c3406] at ov3422)
        (try rw [c3409] at ov3422)
        (try rw [c3411] at ov3422)
        refine q_iconst dX12_readAlp_46 (by decide) ?_
        intro v3430 h3431
        refine tr_istore_n dX12_readAlp_47 (by decide) (by decide) ?_
        refine tr_iload_n dX12_readAlp_48 rfl ?_
        refine q_iconst dX12_readAlp_49 (by decide) ?_
        intro v3432 h3433
        refine q_icmp_ge 85 dX12_readAlp_50 (by decide) (fun h3434 => ?_) (fun h3434 => ?_)
        · skip
          exfalso; omega
        · skip
          refine tr_iload_n dX12_readAlp_53 rfl ?_
          refine q_if_le 63 dX12_readAlp_54 (by decide) (fun h3435 => ?_) (fun h3435 => ?_)
          · skip
            refine tr_aload_n dX12_readAlp_63 rfl ?_
            refine tr_getR dX12_readAlp_64 fl12_188 (kR15 hS3418.1 ta0) d2 ?_
            refine tr_getR dX12_readAlp_67 fl12_260 (kR14 hS3418.1 ta1) d67 ?_
            refine tr_iload_n dX12_readAlp_70 rfl ?_
            refine tr_aload_n dX12_readAlp_71 rfl ?_
            refine q_iconst dX12_readAlp_72 (by decide) ?_
            intro v3436 h3437
            refine q_bipush dX12_readAlp_73 (by decide +kernel) ?_
            intro v3438 h3439
            refine q_callVi hE (M' := mX12_readWhole) (as := [_, _]) dX12_readAlp_75 lk12_161 inX12_readWhole seX12_readWhole myX12_readWhole (by decide) ⟨by decide, by decide⟩ rfl (kR15 hS3418.1 ta0) (Nat.le_of_ble_eq_true rfl) rfl rfl (by decide) (by decide) (k_X12_readWhole hS3418.1 ta0) ?_
            rintro v3444 cn' K' N' I3440 R3441 L3442 ⟨rfl, rfl, rfl, rfl, g3443, p3445, w3446, -⟩
            have hS3447 := hS3418.tr g3443 (by decide +kernel) (by decide +kernel)
            have c3448 : I3440 a1 0 = v29 := (g3443.cell ta1 (by decide +kernel)).trans c3419
            have c3449 : I3440 a1 1 = v33 := (g3443.cell ta1 (by decide +kernel)).trans c3420
            have b3450 : 0 ≤ v3444.toInt ∧ v3444.toInt ≤ 99 := by omega
            clear p3445
            have hO3451 : FrO 14 a1 T I0 I3440 := hO3421.st g3443 (by decide +kernel)
            have ov3452 := w3446.over (by rw [c3424]; omega)
            obtain ⟨v3453, c3454⟩ : ∃ v, I3440 a0 9 = v := ⟨_, rfl⟩
            have b3455 := iv15_9 hS3447.1 ta0 c3454
            obtain ⟨v3456, c3457⟩ : ∃ v, I3440 a0 13 = v := ⟨_, rfl⟩
            obtain ⟨v3458, c3459⟩ : ∃ v, I3440 a0 14 = v := ⟨_, rfl⟩
            (try rw [c3454] at ov3452)
            (try rw [c3457] at ov3452)
            (try rw [c3459] at ov3452)
            (try rw [c3424] at ov3452)
            (try rw [c3427] at ov3452)
            (try rw [c3429] at ov3452)
            refine q_iast dX12_readAlp_78 (kR53 hS3447.1 ta66) (ti_in (nR53 hS3447.1 ta66) (by omega) (by omega)) hS3447 ta66 (iokF rfl) rfl (by rfl) ?_
            intro I3460 hS3461 e3463 f3462
            have c3464 : I3460 a1 0 = v29 := (f3462 _ _ (fun q => by have z := ta1; rw [q.1, ta66] at z; exact absurd z (by decide))).trans c3448
            have c3465 : I3460 a1 1 = v33 := (f3462 _ _ (fun q => by have z := ta1; rw [q.1, ta66] at z; exact absurd z (by decide))).trans c3449
            have c3466 : I3460 a0 9 = v3453 := (f3462 _ _ (fun q => by have z := ta0; rw [q.1, ta66] at z; exact absurd z (by decide))).trans c3454
            have c3467 : I3460 a0 13 = v3456 := (f3462 _ _ (fun q => by have z := ta0; rw [q.1, ta66] at z; exact absurd z (by decide))).trans c3457
            have c3468 : I3460 a0 14 = v3458 := (f3462 _ _ (fun q => by have z := ta0; rw [q.1, ta66] at z; exact absurd z (by decide))).trans c3459
            have hO3469 : FrO 14 a1 T I0 I3460 := hO3451.put f3462 ta66 (Or.inl (by decide))
            refine q_iincE dX12_readAlp_79 rfl (by decide) (by decide) (by intros; omega) ?_
            intro v3470 h3471
            refine tr_goto 48 dX12_readAlp_82 (by decide) ?_
            refine tr_iload_n dX12_readAlp_48 rfl ?_
            refine q_iconst dX12_readAlp_49 (by decide) ?_
            intro v3472 h3473
            refine q_icmp_ge 85 dX12_readAlp_50 (by decide) (fun h3474 => ?_) (fun h3474 => ?_)
            · skip
              exfalso; omega
            · skip
              refine tr_iload_n dX12_readAlp_53 rfl ?_
              refine q_if_le 63 dX12_readAlp_54 (by decide) (fun h3475 => ?_) (fun h3475 => ?_)
              · skip
                exfalso; omega
              · skip
                refine tr_aload_n dX12_readAlp_57 rfl ?_
                refine q_bipush dX12_readAlp_58 (by decide +kernel) ?_
                intro v3476 h3477
                refine q_callVv hE (M' := mX12_needsSign) (as := [_]) dX12_readAlp_60 lk12_257 inX12_needsSign seX12_needsSign myX12_needsSign (by decide) ⟨by decide, by decide⟩ rfl (kR15 hS3461.1 ta0) (Nat.le_of_ble_eq_true rfl) rfl rfl (by decide) (by decide) (k_X12_needsSign hS3461.1 ta0) ?_
                rintro cn' K' N' I3478 R3479 L3480 ⟨rfl, rfl, rfl, rfl, g3481, w3483, -⟩
                have hS3484 := hS3461.tr g3481 (by decide +kernel) (by decide +kernel)
                have c3485 : I3478 a1 0 = v29 := (g3481.cell ta1 (by decide +kernel)).trans c3464
                have c3486 : I3478 a1 1 = v33 := (g3481.cell ta1 (by decide +kernel)).trans c3465
                have hO3487 : FrO 14 a1 T I0 I3478 := hO3469.st g3481 (by decide +kernel)
                have ov3488 := w3483.over (by rw [c3466]; omega)
                obtain ⟨v3489, c3490⟩ : ∃ v, I3478 a0 9 = v := ⟨_, rfl⟩
                have b3491 := iv15_9 hS3484.1 ta0 c3490
                obtain ⟨v3492, c3493⟩ : ∃ v, I3478 a0 13 = v := ⟨_, rfl⟩
                obtain ⟨v3494, c3495⟩ : ∃ v, I3478 a0 14 = v := ⟨_, rfl⟩
                (try rw [c3490] at ov3488)
                (try rw [c3493] at ov3488)
                (try rw [c3495] at ov3488)
                (try rw [c3466] at ov3488)
                (try rw [c3467] at ov3488)
                (try rw [c3468] at ov3488)
                refine tr_aload_n dX12_readAlp_63 rfl ?_
                refine tr_getR dX12_readAlp_64 fl12_188 (kR15 hS3484.1 ta0) d2 ?_
                refine tr_getR dX12_readAlp_67 fl12_260 (kR14 hS3484.1 ta1) d67 ?_
                refine tr_iload_n dX12_readAlp_70 rfl ?_
                refine tr_aload_n dX12_readAlp_71 rfl ?_
                refine q_iconst dX12_readAlp_72 (by decide) ?_
                intro v3496 h3497
                refine q_bipush dX12_readAlp_73 (by decide +kernel) ?_
                intro v3498 h3499
                refine q_callVi hE (M' := mX12_readWhole) (as := [_, _]) dX12_readAlp_75 lk12_161 inX12_readWhole seX12_readWhole myX12_readWhole (by decide) ⟨by decide, by decide⟩ rfl (kR15 hS3484.1 ta0) (Nat.le_of_ble_eq_true rfl) rfl rfl (by decide) (by decide) (k_X12_readWhole hS3484.1 ta0) ?_
                rintro v3504 cn' K' N' I3500 R3501 L3502 ⟨rfl, rfl, rfl, rfl, g3503, p3505, w3506, -⟩
                have hS3507 := hS3484.tr g3503 (by decide +kernel) (by decide +kernel)
                have c3508 : I3500 a1 0 = v29 := (g3503.cell ta1 (by decide +kernel)).trans c3485
                have c3509 : I3500 a1 1 = v33 := (g3503.cell ta1 (by decide +kernel)).trans c3486
                have b3510 : 0 ≤ v3504.toInt ∧ v3504.toInt ≤ 99 := by omega
                clear p3505
                have hO3511 : FrO 14 a1 T I0 I3500 := hO3487.st g3503 (by decide +kernel)
                have ov3512 := w3506.over (by rw [c3490]; omega)
                obtain ⟨v3513, c3514⟩ : ∃ v, I3500 a0 9 = v := ⟨_, rfl⟩
                have b3515 := iv15_9 hS3507.1 ta0 c3514
                obtain ⟨v3516, c3517⟩ : ∃ v, I3500 a0 13 = v := ⟨_, rfl⟩
                obtain ⟨v3518, c3519⟩ : ∃ v, I3500 a0 14 = v := ⟨_, rfl⟩
                (try rw [c3514] at ov3512)
                (try rw [c3517] at ov3512)
                (try rw [c3519] at ov3512)
                (try rw [c3490] at ov3512)
                (try rw [c3493] at ov3512)
                (try rw [c3495] at ov3512)
                refine q_iast dX12_readAlp_78 (kR53 hS3507.1 ta66) (ti_in (nR53 hS3507.1 ta66) (by omega) (by omega)) hS3507 ta66 (iokF rfl) rfl (by rfl) ?_
                intro I3520 hS3521 e3523 f3522
                have c3524 : I3520 a1 0 = v29 := (f3522 _ _ (fun q => by have z := ta1; rw [q.1, ta66] at z; exact absurd z (by decide))).trans c3508
                have c3525 : I3520 a1 1 = v33 := (f3522 _ _ (fun q => by have z := ta1; rw [q.1, ta66] at z; exact absurd z (by decide))).trans c3509
                have c3526 : I3520 a0 9 = v3513 := (f3522 _ _ (fun q => by have z := ta0; rw [q.1, ta66] at z; exact absurd z (by decide))).trans c3514
                have c3527 : I3520 a0 13 = v3516 := (f3522 _ _ (fun q => by have z := ta0; rw [q.1, ta66] at z; exact absurd z (by decide))).trans c3517
                have c3528 : I3520 a0 14 = v3518 := (f3522 _ _ (fun q => by have z := ta0; rw [q.1, ta66] at z; exact absurd z (by decide))).trans c3519
                have hO3529 : FrO 14 a1 T I0 I3520 := hO3511.put f3522 ta66 (Or.inl (by decide))
                refine q_iincE dX12_readAlp_79 rfl (by decide) (by decide) (by intros; omega) ?_
                intro v3530 h3531
                refine tr_goto 48 dX12_readAlp_82 (by decide) ?_
                refine tr_iload_n dX12_readAlp_48 rfl ?_
                refine q_iconst dX12_readAlp_49 (by decide) ?_
                intro v3532 h3533
                refine q_icmp_ge 85 dX12_readAlp_50 (by decide) (fun h3534 => ?_) (fun h3534 => ?_)
                · skip
                  exfalso; omega
                · skip
                  refine tr_iload_n dX12_readAlp_53 rfl ?_
                  refine q_if_le 63 dX12_readAlp_54 (by decide) (fun h3535 => ?_) (fun h3535 => ?_)
                  · skip
                    exfalso; omega
                  · skip
                    refine tr_aload_n dX12_readAlp_57 rfl ?_
                    refine q_bipush dX12_readAlp_58 (by decide +kernel) ?_
                    intro v3536 h3537
                    refine q_callVv hE (M' := mX12_needsSign) (as := [_]) dX12_readAlp_60 lk12_257 inX12_needsSign seX12_needsSign myX12_needsSign (by decide) ⟨by decide, by decide⟩ rfl (kR15 hS3521.1 ta0) (Nat.le_of_ble_eq_true rfl) rfl rfl (by decide) (by decide) (k_X12_needsSign hS3521.1 ta0) ?_
                    rintro cn' K' N' I3538 R3539 L3540 ⟨rfl, rfl, rfl, rfl, g3541, w3543, -⟩
                    have hS3544 := hS3521.tr g3541 (by decide +kernel) (by decide +kernel)
                    have c3545 : I3538 a1 0 = v29 := (g3541.cell ta1 (by decide +kernel)).trans c3524
                    have c3546 : I3538 a1 1 = v33 := (g3541.cell ta1 (by decide +kernel)).trans c3525
                    have hO3547 : FrO 14 a1 T I0 I3538 := hO3529.st g3541 (by decide +kernel)
                    have ov3548 := w3543.over (by rw [c3526]; omega)
                    obtain ⟨v3549, c3550⟩ : ∃ v, I3538 a0 9 = v := ⟨_, rfl⟩
                    have b3551 := iv15_9 hS3544.1 ta0 c3550
                    obtain ⟨v3552, c3553⟩ : ∃ v, I3538 a0 13 = v := ⟨_, rfl⟩
                    obtain ⟨v3554, c3555⟩ : ∃ v, I3538 a0 14 = v := ⟨_, rfl⟩
                    (try rw [c3550] at ov3548)
                    (try rw [c3553] at ov3548)
                    (try rw [c3555] at ov3548)
                    (try rw [c3526] at ov3548)
                    (try rw [c3527] at ov3548)
                    (try rw [c3528] at ov3548)
                    refine tr_aload_n dX12_readAlp_63 rfl ?_
                    refine tr_getR dX12_readAlp_64 fl12_188 (kR15 hS3544.1 ta0) d2 ?_
                    refine tr_getR dX12_readAlp_67 fl12_260 (kR14 hS3544.1 ta1) d67 ?_
                    refine tr_iload_n dX12_readAlp_70 rfl ?_
                    refine tr_aload_n dX12_readAlp_71 rfl ?_
                    refine q_iconst dX12_readAlp_72 (by decide) ?_
                    intro v3556 h3557
                    refine q_bipush dX12_readAlp_73 (by decide +kernel) ?_
                    intro v3558 h3559
                    refine q_callVi hE (M' := mX12_readWhole) (as := [_, _]) dX12_readAlp_75 lk12_161 inX12_readWhole seX12_readWhole myX12_readWhole (by decide) ⟨by decide, by decide⟩ rfl (kR15 hS3544.1 ta0) (Nat.le_of_ble_eq_true rfl) rfl rfl (by decide) (by decide) (k_X12_readWhole hS3544.1 ta0) ?_
                    rintro v3564 cn' K' N' I3560 R3561 L3562 ⟨rfl, rfl, rfl, rfl, g3563, p3565, w3566, -⟩
                    have hS3567 := hS3544.tr g3563 (by decide +kernel) (by decide +kernel)
                    have c3568 : I3560 a1 0 = v29 := (g3563.cell ta1 (by decide +kernel)).trans c3545
                    have c3569 : I3560 a1 1 = v33 := (g3563.cell ta1 (by decide +kernel)).trans c3546
                    have b3570 : 0 ≤ v3564.toInt ∧ v3564.toInt ≤ 99 := by omega
                    clear p3565
                    have hO3571 : FrO 14 a1 T I0 I3560 := hO3547.st g3563 (by decide +kernel)
                    have ov3572 := w3566.over (by rw [c3550]; omega)
                    obtain ⟨v3573, c3574⟩ : ∃ v, I3560 a0 9 = v := ⟨_, rfl⟩
                    have b3575 := iv15_9 hS3567.1 ta0 c3574
                    obtain ⟨v3576, c3577⟩ : ∃ v, I3560 a0 13 = v := ⟨_, rfl⟩
                    obtain ⟨v3578, c3579⟩ : ∃ v, I3560 a0 14 = v := ⟨_, rfl⟩
                    (try rw [c3574] at ov3572)
                    (try rw [c3577] at ov3572)
                    (try rw [c3579] at ov3572)
                    (try rw [c3550] at ov3572)
                    (try rw [c3553] at ov3572)
                    (try rw [c3555] at ov3572)
                    refine q_iast dX12_readAlp_78 (kR53 hS3567.1 ta66) (ti_in (nR53 hS3567.1 ta66) (by omega) (by omega)) hS3567 ta66 (iokF rfl) rfl (by rfl) ?_
                    intro I3580 hS3581 e3583 f3582
                    have c3584 : I3580 a1 0 = v29 := (f3582 _ _ (fun q => by have z := ta1; rw [q.1, ta66] at z; exact absurd z (by decide))).trans c3568
                    have c3585 : I3580 a1 1 = v33 := (f3582 _ _ (fun q => by have z := ta1; rw [q.1, ta66] at z; exact absurd z (by decide))).trans c3569
                    have c3586 : I3580 a0 9 = v3573 := (f3582 _ _ (fun q => by have z := ta0; rw [q.1, ta66] at z; exact absurd z (by decide))).trans c3574
                    have c3587 : I3580 a0 13 = v3576 := (f3582 _ _ (fun q => by have z := ta0; rw [q.1, ta66] at z; exact absurd z (by decide))).trans c3577
                    have c3588 : I3580 a0 14 = v3578 := (f3582 _ _ (fun q => by have z := ta0; rw [q.1, ta66] at z; exact absurd z (by decide))).trans c3579
                    have hO3589 : FrO 14 a1 T I0 I3580 := hO3571.put f3582 ta66 (Or.inl (by decide))
                    refine q_iincE dX12_readAlp_79 rfl (by decide) (by decide) (by intros; omega) ?_
                    intro v3590 h3591
                    refine tr_goto 48 dX12_readAlp_82 (by decide) ?_
                    refine tr_iload_n dX12_readAlp_48 rfl ?_
                    refine q_iconst dX12_readAlp_49 (by decide) ?_
                    intro v3592 h3593
                    refine q_icmp_ge 85 dX12_readAlp_50 (by decide) (fun h3594 => ?_) (fun h3594 => ?_)
                    · skip
                      exfalso; omega
                    · skip
                      refine tr_iload_n dX12_readAlp_53 rfl ?_
                      refine q_if_le 63 dX12_readAlp_54 (by decide) (fun h3595 => ?_) (fun h3595 => ?_)
                      · skip
                        exfalso; omega
                      · skip
                        refine tr_aload_n dX12_readAlp_57 rfl ?_
                        refine q_bipush dX12_readAlp_58 (by decide +kernel) ?_
                        intro v3596 h3597
                        refine q_callVv hE (M' := mX12_needsSign) (as := [_]) dX12_readAlp_60 lk12_257 inX12_needsSign seX12_needsSign myX12_needsSign (by decide) ⟨by decide, by decide⟩ rfl (kR15 hS3581.1 ta0) (Nat.le_of_ble_eq_true rfl) rfl rfl (by decide) (by decide) (k_X12_needsSign hS3581.1 ta0) ?_
                        rintro cn' K' N' I3598 R3599 L3600 ⟨rfl, rfl, rfl, rfl, g3601, w3603, -⟩
                        have hS3604 := hS3581.tr g3601 (by decide +kernel) (by decide +kernel)
                        have c3605 : I3598 a1 0 = v29 := (g3601.cell ta1 (by decide +kernel)).trans c3584
                        have c3606 : I3598 a1 1 = v33 := (g3601.cell ta1 (by decide +kernel)).trans c3585
                        have hO3607 : FrO 14 a1 T I0 I3598 := hO3589.st g3601 (by decide +kernel)
                        have ov3608 := w3603.over (by rw [c3586]; omega)
                        obtain ⟨v3609, c3610⟩ : ∃ v, I3598 a0 9 = v := ⟨_, rfl⟩
                        have b3611 := iv15_9 hS3604.1 ta0 c3610
                        obtain ⟨v3612, c3613⟩ : ∃ v, I3598 a0 13 = v := ⟨_, rfl⟩
                        obtain ⟨v3614, c3615⟩ : ∃ v, I3598 a0 14 = v := ⟨_, rfl⟩
                        (try rw [c3610] at ov3608)
                        (try rw [c3613] at ov3608)
                        (try rw [c3615] at ov3608)
                        (try rw [c3586] at ov3608)
                        (try rw [c3587] at ov3608)
                        (try rw [c3588] at ov3608)
                        refine tr_aload_n dX12_readAlp_63 rfl ?_
                        refine tr_getR dX12_readAlp_64 fl12_188 (kR15 hS3604.1 ta0) d2 ?_
                        refine tr_getR dX12_readAlp_67 fl12_260 (kR14 hS3604.1 ta1) d67 ?_
                        refine tr_iload_n dX12_readAlp_70 rfl ?_
                        refine tr_aload_n dX12_readAlp_71 rfl ?_
                        refine q_iconst dX12_readAlp_72 (by decide) ?_
                        intro v3616 h3617
                        refine q_bipush dX12_readAlp_73 (by decide +kernel) ?_
                        intro v3618 h3619
                        refine q_callVi hE (M' := mX12_readWhole) (as := [_, _]) dX12_readAlp_75 lk12_161 inX12_readWhole seX12_readWhole myX12_readWhole (by decide) ⟨by decide, by decide⟩ rfl (kR15 hS3604.1 ta0) (Nat.le_of_ble_eq_true rfl) rfl rfl (by decide) (by decide) (k_X12_readWhole hS3604.1 ta0) ?_
                        rintro v3624 cn' K' N' I3620 R3621 L3622 ⟨rfl, rfl, rfl, rfl, g3623, p3625, w3626, -⟩
                        have hS3627 := hS3604.tr g3623 (by decide +kernel) (by decide +kernel)
                        have c3628 : I3620 a1 0 = v29 := (g3623.cell ta1 (by decide +kernel)).trans c3605
                        have c3629 : I3620 a1 1 = v33 := (g3623.cell ta1 (by decide +kernel)).trans c3606
                        have b3630 : 0 ≤ v3624.toInt ∧ v3624.toInt ≤ 99 := by omega
                        clear p3625
                        have hO3631 : FrO 14 a1 T I0 I3620 := hO3607.st g3623 (by decide +kernel)
                        have ov3632 := w3626.over (by rw [c3610]; omega)
                        obtain ⟨v3633, c3634⟩ : ∃ v, I3620 a0 9 = v := ⟨_, rfl⟩
                        have b3635 := iv15_9 hS3627.1 ta0 c3634
                        obtain ⟨v3636, c3637⟩ : ∃ v, I3620 a0 13 = v := ⟨_, rfl⟩
                        obtain ⟨v3638, c3639⟩ : ∃ v, I3620 a0 14 = v := ⟨_, rfl⟩
                        (try rw [c3634] at ov3632)
                        (try rw [c3637] at ov3632)
                        (try rw [c3639] at ov3632)
                        (try rw [c3610] at ov3632)
                        (try rw [c3613] at ov3632)
                        (try rw [c3615] at ov3632)
                        refine q_iast dX12_readAlp_78 (kR53 hS3627.1 ta66) (ti_in (nR53 hS3627.1 ta66) (by omega) (by omega)) hS3627 ta66 (iokF rfl) rfl (by rfl) ?_
                        intro I3640 hS3641 e3643 f3642
                        have c3644 : I3640 a1 0 = v29 := (f3642 _ _ (fun q => by have z := ta1; rw [q.1, ta66] at z; exact absurd z (by decide))).trans c3628
                        have c3645 : I3640 a1 1 = v33 := (f3642 _ _ (fun q => by have z := ta1; rw [q.1, ta66] at z; exact absurd z (by decide))).trans c3629
                        have c3646 : I3640 a0 9 = v3633 := (f3642 _ _ (fun q => by have z := ta0; rw [q.1, ta66] at z; exact absurd z (by decide))).trans c3634
                        have c3647 : I3640 a0 13 = v3636 := (f3642 _ _ (fun q => by have z := ta0; rw [q.1, ta66] at z; exact absurd z (by decide))).trans c3637
                        have c3648 : I3640 a0 14 = v3638 := (f3642 _ _ (fun q => by have z := ta0; rw [q.1, ta66] at z; exact absurd z (by decide))).trans c3639
                        have hO3649 : FrO 14 a1 T I0 I3640 := hO3631.put f3642 ta66 (Or.inl (by decide))
                        refine q_iincE dX12_readAlp_79 rfl (by decide) (by decide) (by intros; omega) ?_
                        intro v3650 h3651
                        refine tr_goto 48 dX12_readAlp_82 (by decide) ?_
                        refine tr_iload_n dX12_readAlp_48 rfl ?_
                        refine q_iconst dX12_readAlp_49 (by decide) ?_
                        intro v3652 h3653
                        refine q_icmp_ge 85 dX12_readAlp_50 (by decide) (fun h3654 => ?_) (fun h3654 => ?_)
                        · skip
                          exfalso; omega
                        · skip
                          refine tr_iload_n dX12_readAlp_53 rfl ?_
                          refine q_if_le 63 dX12_readAlp_54 (by decide) (fun h3655 => ?_) (fun h3655 => ?_)
                          · skip
                            exfalso; omega
                          · skip
                            refine tr_aload_n dX12_readAlp_57 rfl ?_
                            refine q_bipush dX12_readAlp_58 (by decide +kernel) ?_
                            intro v3656 h3657
                            refine q_callVv hE (M' := mX12_needsSign) (as := [_]) dX12_readAlp_60 lk12_257 inX12_needsSign seX12_needsSign myX12_needsSign (by decide) ⟨by decide, by decide⟩ rfl (kR15 hS3641.1 ta0) (Nat.le_of_ble_eq_true rfl) rfl rfl (by decide) (by decide) (k_X12_needsSign hS3641.1 ta0) ?_
                            rintro cn' K' N' I3658 R3659 L3660 ⟨rfl, rfl, rfl, rfl, g3661, w3663, -⟩
                            have hS3664 := hS3641.tr g3661 (by decide +kernel) (by decide +kernel)
                            have c3665 : I3658 a1 0 = v29 := (g3661.cell ta1 (by decide +kernel)).trans c3644
                            have c3666 : I3658 a1 1 = v33 := (g3661.cell ta1 (by decide +kernel)).trans c3645
                            have hO3667 : FrO 14 a1 T I0 I3658 := hO3649.st g3661 (by decide +kernel)
                            have ov3668 := w3663.over (by rw [c3646]; omega)
                            obtain ⟨v3669, c3670⟩ : ∃ v, I3658 a0 9 = v := ⟨_, rfl⟩
                            have b3671 := iv15_9 hS3664.1 ta0 c3670
                            obtain ⟨v3672, c3673⟩ : ∃ v, I3658 a0 13 = v := ⟨_, rfl⟩
                            obtain ⟨v3674, c3675⟩ : ∃ v, I3658 a0 14 = v := ⟨_, rfl⟩
                            (try rw [c3670] at ov3668)
                            (try rw [c3673] at ov3668)
                            (try rw [c3675] at ov3668)
                            (try rw [c3646] at ov3668)
                            (try rw [c3647] at ov3668)
                            (try rw [c3648] at ov3668)
                            refine tr_aload_n dX12_readAlp_63 rfl ?_
                            refine tr_getR dX12_readAlp_64 fl12_188 (kR15 hS3664.1 ta0) d2 ?_
                            refine tr_getR dX12_readAlp_67 fl12_260 (kR14 hS3664.1 ta1) d67 ?_
                            refine tr_iload_n dX12_readAlp_70 rfl ?_
                            refine tr_aload_n dX12_readAlp_71 rfl ?_
                            refine q_iconst dX12_readAlp_72 (by decide) ?_
                            intro v3676 h3677
                            refine q_bipush dX12_readAlp_73 (by decide +kernel) ?_
                            intro v3678 h3679
                            refine q_callVi hE (M' := mX12_readWhole) (as := [_, _]) dX12_readAlp_75 lk12_161 inX12_readWhole seX12_readWhole myX12_readWhole (by decide) ⟨by decide, by decide⟩ rfl (kR15 hS3664.1 ta0) (Nat.le_of_ble_eq_true rfl) rfl rfl (by decide) (by decide) (k_X12_readWhole hS3664.1 ta0) ?_
                            rintro v3684 cn' K' N' I3680 R3681 L3682 ⟨rfl, rfl, rfl, rfl, g3683, p3685, w3686, -⟩
                            have hS3687 := hS3664.tr g3683 (by decide +kernel) (by decide +kernel)
                            have c3688 : I3680 a1 0 = v29 := (g3683.cell ta1 (by decide +kernel)).trans c3665
                            have c3689 : I3680 a1 1 = v33 := (g3683.cell ta1 (by decide +kernel)).trans c3666
                            have b3690 : 0 ≤ v3684.toInt ∧ v3684.toInt ≤ 99 := by omega
                            clear p3685
                            have hO3691 : FrO 14 a1 T I0 I3680 := hO3667.st g3683 (by decide +kernel)
                            have ov3692 := w3686.over (by rw [c3670]; omega)
                            obtain ⟨v3693, c3694⟩ : ∃ v, I3680 a0 9 = v := ⟨_, rfl⟩
                            have b3695 := iv15_9 hS3687.1 ta0 c3694
                            obtain ⟨v3696, c3697⟩ : ∃ v, I3680 a0 13 = v := ⟨_, rfl⟩
                            obtain ⟨v3698, c3699⟩ : ∃ v, I3680 a0 14 = v := ⟨_, rfl⟩
                            (try rw [c3694] at ov3692)
                            (try rw [c3697] at ov3692)
                            (try rw [c3699] at ov3692)
                            (try rw [c3670] at ov3692)
                            (try rw [c3673] at ov3692)
                            (try rw [c3675] at ov3692)
                            refine q_iast dX12_readAlp_78 (kR53 hS3687.1 ta66) (ti_in (nR53 hS3687.1 ta66) (by omega) (by omega)) hS3687 ta66 (iokF rfl) rfl (by rfl) ?_
                            intro I3700 hS3701 e3703 f3702
                            have c3704 : I3700 a1 0 = v29 := (f3702 _ _ (fun q => by have z := ta1; rw [q.1, ta66] at z; exact absurd z (by decide))).trans c3688
                            have c3705 : I3700 a1 1 = v33 := (f3702 _ _ (fun q => by have z := ta1; rw [q.1, ta66] at z; exact absurd z (by decide))).trans c3689
                            have c3706 : I3700 a0 9 = v3693 := (f3702 _ _ (fun q => by have z := ta0; rw [q.1, ta66] at z; exact absurd z (by decide))).trans c3694
                            have c3707 : I3700 a0 13 = v3696 := (f3702 _ _ (fun q => by have z := ta0; rw [q.1, ta66] at z; exact absurd z (by decide))).trans c3697
                            have c3708 : I3700 a0 14 = v3698 := (f3702 _ _ (fun q => by have z := ta0; rw [q.1, ta66] at z; exact absurd z (by decide))).trans c3699
                            have hO3709 : FrO 14 a1 T I0 I3700 := hO3691.put f3702 ta66 (Or.inl (by decide))
                            refine q_iincE dX12_readAlp_79 rfl (by decide) (by decide) (by intros; omega) ?_
                            intro v3710 h3711
                            refine tr_goto 48 dX12_readAlp_82 (by decide) ?_
                            refine tr_iload_n dX12_readAlp_48 rfl ?_
                            refine q_iconst dX12_readAlp_49 (by decide) ?_
                            intro v3712 h3713
                            refine q_icmp_ge 85 dX12_readAlp_50 (by decide) (fun h3714 => ?_) (fun h3714 => ?_)
                            · skip
                              refine tr_aload_n dX12_readAlp_85 rfl ?_
                              refine q_getI dX12_readAlp_86 fl12_99 (kR15 hS3701.1 ta0) c3706 ?_
                              refine q_iconst dX12_readAlp_89 (by decide) ?_
                              intro v3715 h3716
                              refine q_icmp_ne 94 dX12_readAlp_90 (by decide) (fun h3717 => ?_) (fun h3717 => ?_)
                              · skip
                                exfalso; omega
                              · skip
                                have eF := hF.eq
                                have eP := hP.eq
                                obtain ⟨v3718, c3719⟩ : ∃ v, I3700 a0 10 = v := ⟨_, rfl⟩
                                have b3720 := iv15_10 hS3701.1 ta0 c3719
                                obtain ⟨v3721, c3722⟩ : ∃ v, I3700 a0 11 = v := ⟨_, rfl⟩
                                obtain ⟨y3723, c3724⟩ : ∃ v, L3682 a0 15 = v := ⟨_, rfl⟩
                                obtain ⟨v3725, c3726⟩ : ∃ v, I3700 a0 12 = v := ⟨_, rfl⟩
                                obtain ⟨v3727, c3728⟩ : ∃ v, I3700 a0 8 = v := ⟨_, rfl⟩
                                have b3729 := iv15_8 hS3701.1 ta0 c3728
                                exact tr_vret hZ dX12_readAlp_93 rfl (by decide) (by decide) ⟨rfl, rfl, rfl, rfl, rfl, hS3701, (fun b hb => (Option.some.inj (d2.symm.trans hb)) ▸ (((((((((((((((((((FrM.rf (R := R0) (b := a1) (T := T)).st g74 (by decide +kernel)).st g126 (by decide +kernel)).st g196 (by decide +kernel)).st g3415 (by decide +kernel)).st g3443 (by decide +kernel)).pu f3462 (by decide) (by decide) d67).st g3481 (by decide +kernel)).st g3503 (by decide +kernel)).pu f3522 (by decide) (by decide) d67).st g3541 (by decide +kernel)).st g3563 (by decide +kernel)).pu f3582 (by decide) (by decide) d67).st g3601 (by decide +kernel)).st g3623 (by decide +kernel)).pu f3642 (by decide) (by decide) d67).st g3661 (by decide +kernel)).st g3683 (by decide +kernel)).pu f3702 (by decide) (by decide) d67)), (fun dr hd => (Option.some.inj (d2.symm.trans hd)) ▸ hO3709), (Or.inr (⟨(by (try rw [w109]); first | done | with_reducible assumption | omega), (by (try rw [w109]); (try rw [c3706]); first | done | with_reducible assumption | omega), (by (try rw [w109]); (try rw [c3707]); first | done | with_reducible assumption | omega), (by (try rw [w109]); (try rw [c3708]); first | done | with_reducible assumption | omega), trivial⟩)), trivial⟩
                            · skip
                              exfalso; omega
          · skip
            exfalso; omega
      · skip
        obtain ⟨v3730, c3731⟩ : ∃ v, I193 a0 9 = v := ⟨_, rfl⟩
        have b3732 := iv15_9 hS201.1 ta0 c3731
        rw [c3731] at p229
        obtain ⟨v3733, c3734⟩ : ∃ v, I193 a0 13 = v := ⟨_, rfl⟩
        rw [c3734] at p230
        obtain ⟨v3735, c3736⟩ : ∃ v, I193 a0 14 = v := ⟨_, rfl⟩
        rw [c3736] at p231
        replace hF := hF.neg (by omega)
        replace hP := hP.neg (by omega)
        replace hF := hF.pos (by omega)
        replace hP := hP.pos (by omega)
        refine tr_istore_n dX12_readAlp_39 (by decide) (by decide) ?_
        refine tr_aload_n dX12_readAlp_40 rfl ?_
        refine tr_ldcS dX12_readAlp_41 ld12_255 ?_
        refine q_callVv hE (M' := mX12_needs) (as := [_]) dX12_readAlp_43 lk12_157 inX12_needs seX12_needs myX12_needs (by decide) ⟨by decide, by decide⟩ rfl (kR15 hS201.1 ta0) (Nat.le_of_ble_eq_true rfl) rfl rfl (by decide) (by decide) (k_X12_needs hS201.1 ta0 (by decide)) ?_
        rintro cn' K' N' I3737 R3738 L3739 ⟨rfl, rfl, rfl, rfl, g3740, w3742, -⟩
        have hS3743 := hS201.tr g3740 (by decide +kernel) (by decide +kernel)
        have c3744 : I3737 a1 0 = v29 := (g3740.cell ta1 (by decide +kernel)).trans c202
        have c3745 : I3737 a1 1 = v33 := (g3740.cell ta1 (by decide +kernel)).trans c203
        have hO3746 : FrO 14 a1 T I0 I3737 := hO204.st g3740 (by decide +kernel)
        have ov3747 := w3742.over (by rw [c3731]; omega)
        obtain ⟨v3748, c3749⟩ : ∃ v, I3737 a0 9 = v := ⟨_, rfl⟩
        have b3750 := iv15_9 hS3743.1 ta0 c3749
        obtain ⟨v3751, c3752⟩ : ∃ v, I3737 a0 13 = v := ⟨_, rfl⟩
        obtain ⟨v3753, c3754⟩ : ∃ v, I3737 a0 14 = v := ⟨_, rfl⟩
        (try rw [c3749] at ov3747)
        (try rw [c3752] at ov3747)
        (try rw [c3754] at ov3747)
        (try rw [c3731] at ov3747)
        (try rw [c3734] at ov3747)
        (try rw [c3736] at ov3747)
        refine q_iconst dX12_readAlp_46 (by decide) ?_
        intro v3755 h3756
        refine tr_istore_n dX12_readAlp_47 (by decide) (by decide) ?_
        refine tr_iload_n dX12_readAlp_48 rfl ?_
        refine q_iconst dX12_readAlp_49 (by decide) ?_
        intro v3757 h3758
        refine q_icmp_ge 85 dX12_readAlp_50 (by decide) (fun h3759 => ?_) (fun h3759 => ?_)
        · skip
          exfalso; omega
        · skip
          refine tr_iload_n dX12_readAlp_53 rfl ?_
          refine q_if_le 63 dX12_readAlp_54 (by decide) (fun h3760 => ?_) (fun h3760 => ?_)
          · skip
            refine tr_aload_n dX12_readAlp_63 rfl ?_
            refine tr_getR dX12_readAlp_64 fl12_188 (kR15 hS3743.1 ta0) d2 ?_
            refine tr_getR dX12_readAlp_67 fl12_260 (kR14 hS3743.1 ta1) d67 ?_
            refine tr_iload_n dX12_readAlp_70 rfl ?_
            refine tr_aload_n dX12_readAlp_71 rfl ?_
            refine q_iconst dX12_readAlp_72 (by decide) ?_
            intro v3761 h3762
            refine q_bipush dX12_readAlp_73 (by decide +kernel) ?_
            intro v3763 h3764
            refine q_callVi hE (M' := mX12_readWhole) (as := [_, _]) dX12_readAlp_75 lk12_161 inX12_readWhole seX12_readWhole myX12_readWhole (by decide) ⟨by decide, by decide⟩ rfl (kR15 hS3743.1 ta0) (Nat.le_of_ble_eq_true rfl) rfl rfl (by decide) (by decide) (k_X12_readWhole hS3743.1 ta0) ?_
            rintro v3769 cn' K' N' I3765 R3766 L3767 ⟨rfl, rfl, rfl, rfl, g3768, p3770, w3771, -⟩
            have hS3772 := hS3743.tr g3768 (by decide +kernel) (by decide +kernel)
            have c3773 : I3765 a1 0 = v29 := (g3768.cell ta1 (by decide +kernel)).trans c3744
            have c3774 : I3765 a1 1 = v33 := (g3768.cell ta1 (by decide +kernel)).trans c3745
            have b3775 : 0 ≤ v3769.toInt ∧ v3769.toInt ≤ 99 := by omega
            clear p3770
            have hO3776 : FrO 14 a1 T I0 I3765 := hO3746.st g3768 (by decide +kernel)
            have ov3777 := w3771.over (by rw [c3749]; omega)
            obtain ⟨v3778, c3779⟩ : ∃ v, I3765 a0 9 = v := ⟨_, rfl⟩
            have b3780 := iv15_9 hS3772.1 ta0 c3779
            obtain ⟨v3781, c3782⟩ : ∃ v, I3765 a0 13 = v := ⟨_, rfl⟩
            obtain ⟨v3783, c3784⟩ : ∃ v, I3765 a0 14 = v := ⟨_, rfl⟩
            (try rw [c3779] at ov3777)
            (try rw [c3782] at ov3777)
            (try rw [c3784] at ov3777)
            (try rw [c3749] at ov3777)
            (try rw [c3752] at ov3777)
            (try rw [c3754] at ov3777)
            refine q_iast dX12_readAlp_78 (kR53 hS3772.1 ta66) (ti_in (nR53 hS3772.1 ta66) (by omega) (by omega)) hS3772 ta66 (iokF rfl) rfl (by rfl) ?_
            intro I3785 hS3786 e3788 f3787
            have c3789 : I3785 a1 0 = v29 := (f3787 _ _ (fun q => by have z := ta1; rw [q.1, ta66] at z; exact absurd z (by decide))).trans c3773
            have c3790 : I3785 a1 1 = v33 := (f3787 _ _ (fun q => by have z := ta1; rw [q.1, ta66] at z; exact absurd z (by decide))).trans c3774
            have c3791 : I3785 a0 9 = v3778 := (f3787 _ _ (fun q => by have z := ta0; rw [q.1, ta66] at z; exact absurd z (by decide))).trans c3779
            have c3792 : I3785 a0 13 = v3781 := (f3787 _ _ (fun q => by have z := ta0; rw [q.1, ta66] at z; exact absurd z (by decide))).trans c3782
            have c3793 : I3785 a0 14 = v3783 := (f3787 _ _ (fun q => by have z := ta0; rw [q.1, ta66] at z; exact absurd z (by decide))).trans c3784
            have hO3794 : FrO 14 a1 T I0 I3785 := hO3776.put f3787 ta66 (Or.inl (by decide))
            refine q_iincE dX12_readAlp_79 rfl (by decide) (by decide) (by intros; omega) ?_
            intro v3795 h3796
            refine tr_goto 48 dX12_readAlp_82 (by decide) ?_
            refine tr_iload_n dX12_readAlp_48 rfl ?_
            refine q_iconst dX12_readAlp_49 (by decide) ?_
            intro v3797 h3798
            refine q_icmp_ge 85 dX12_readAlp_50 (by decide) (fun h3799 => ?_) (fun h3799 => ?_)
            · skip
              exfalso; omega
            · skip
              refine tr_iload_n dX12_readAlp_53 rfl ?_
              refine q_if_le 63 dX12_readAlp_54 (by decide) (fun h3800 => ?_) (fun h3800 => ?_)
              · skip
                exfalso; omega
              · skip
                refine tr_aload_n dX12_readAlp_57 rfl ?_
                refine q_bipush dX12_readAlp_58 (by decide +kernel) ?_
                intro v3801 h3802
                refine q_callVv hE (M' := mX12_needsSign) (as := [_]) dX12_readAlp_60 lk12_257 inX12_needsSign seX12_needsSign myX12_needsSign (by decide) ⟨by decide, by decide⟩ rfl (kR15 hS3786.1 ta0) (Nat.le_of_ble_eq_true rfl) rfl rfl (by decide) (by decide) (k_X12_needsSign hS3786.1 ta0) ?_
                rintro cn' K' N' I3803 R3804 L3805 ⟨rfl, rfl, rfl, rfl, g3806, w3808, -⟩
                have hS3809 := hS3786.tr g3806 (by decide +kernel) (by decide +kernel)
                have c3810 : I3803 a1 0 = v29 := (g3806.cell ta1 (by decide +kernel)).trans c3789
                have c3811 : I3803 a1 1 = v33 := (g3806.cell ta1 (by decide +kernel)).trans c3790
                have hO3812 : FrO 14 a1 T I0 I3803 := hO3794.st g3806 (by decide +kernel)
                have ov3813 := w3808.over (by rw [c3791]; omega)
                obtain ⟨v3814, c3815⟩ : ∃ v, I3803 a0 9 = v := ⟨_, rfl⟩
                have b3816 := iv15_9 hS3809.1 ta0 c3815
                obtain ⟨v3817, c3818⟩ : ∃ v, I3803 a0 13 = v := ⟨_, rfl⟩
                obtain ⟨v3819, c3820⟩ : ∃ v, I3803 a0 14 = v := ⟨_, rfl⟩
                (try rw [c3815] at ov3813)
                (try rw [c3818] at ov3813)
                (try rw [c3820] at ov3813)
                (try rw [c3791] at ov3813)
                (try rw [c3792] at ov3813)
                (try rw [c3793] at ov3813)
                refine tr_aload_n dX12_readAlp_63 rfl ?_
                refine tr_getR dX12_readAlp_64 fl12_188 (kR15 hS3809.1 ta0) d2 ?_
                refine tr_getR dX12_readAlp_67 fl12_260 (kR14 hS3809.1 ta1) d67 ?_
                refine tr_iload_n dX12_readAlp_70 rfl ?_
                refine tr_aload_n dX12_readAlp_71 rfl ?_
                refine q_iconst dX12_readAlp_72 (by decide) ?_
                intro v3821 h3822
                refine q_bipush dX12_readAlp_73 (by decide +kernel) ?_
                intro v3823 h3824
                refine q_callVi hE (M' := mX12_readWhole) (as := [_, _]) dX12_readAlp_75 lk12_161 inX12_readWhole seX12_readWhole myX12_readWhole (by decide) ⟨by decide, by decide⟩ rfl (kR15 hS3809.1 ta0) (Nat.le_of_ble_eq_true rfl) rfl rfl (by decide) (by decide) (k_X12_readWhole hS3809.1 ta0) ?_
                rintro v3829 cn' K' N' I3825 R3826 L3827 ⟨rfl, rfl, rfl, rfl, g3828, p3830, w3831, -⟩
                have hS3832 := hS3809.tr g3828 (by decide +kernel) (by decide +kernel)
                have c3833 : I3825 a1 0 = v29 := (g3828.cell ta1 (by decide +kernel)).trans c3810
                have c3834 : I3825 a1 1 = v33 := (g3828.cell ta1 (by decide +kernel)).trans c3811
                have b3835 : 0 ≤ v3829.toInt ∧ v3829.toInt ≤ 99 := by omega
                clear p3830
                have hO3836 : FrO 14 a1 T I0 I3825 := hO3812.st g3828 (by decide +kernel)
                have ov3837 := w3831.over (by rw [c3815]; omega)
                obtain ⟨v3838, c3839⟩ : ∃ v, I3825 a0 9 = v := ⟨_, rfl⟩
                have b3840 := iv15_9 hS3832.1 ta0 c3839
                obtain ⟨v3841, c3842⟩ : ∃ v, I3825 a0 13 = v := ⟨_, rfl⟩
                obtain ⟨v3843, c3844⟩ : ∃ v, I3825 a0 14 = v := ⟨_, rfl⟩
                (try rw [c3839] at ov3837)
                (try rw [c3842] at ov3837)
                (try rw [c3844] at ov3837)
                (try rw [c3815] at ov3837)
                (try rw [c3818] at ov3837)
                (try rw [c3820] at ov3837)
                refine q_iast dX12_readAlp_78 (kR53 hS3832.1 ta66) (ti_in (nR53 hS3832.1 ta66) (by omega) (by omega)) hS3832 ta66 (iokF rfl) rfl (by rfl) ?_
                intro I3845 hS3846 e3848 f3847
                have c3849 : I3845 a1 0 = v29 := (f3847 _ _ (fun q => by have z := ta1; rw [q.1, ta66] at z; exact absurd z (by decide))).trans c3833
                have c3850 : I3845 a1 1 = v33 := (f3847 _ _ (fun q => by have z := ta1; rw [q.1, ta66] at z; exact absurd z (by decide))).trans c3834
                have c3851 : I3845 a0 9 = v3838 := (f3847 _ _ (fun q => by have z := ta0; rw [q.1, ta66] at z; exact absurd z (by decide))).trans c3839
                have c3852 : I3845 a0 13 = v3841 := (f3847 _ _ (fun q => by have z := ta0; rw [q.1, ta66] at z; exact absurd z (by decide))).trans c3842
                have c3853 : I3845 a0 14 = v3843 := (f3847 _ _ (fun q => by have z := ta0; rw [q.1, ta66] at z; exact absurd z (by decide))).trans c3844
                have hO3854 : FrO 14 a1 T I0 I3845 := hO3836.put f3847 ta66 (Or.inl (by decide))
                refine q_iincE dX12_readAlp_79 rfl (by decide) (by decide) (by intros; omega) ?_
                intro v3855 h3856
                refine tr_goto 48 dX12_readAlp_82 (by decide) ?_
                refine tr_iload_n dX12_readAlp_48 rfl ?_
                refine q_iconst dX12_readAlp_49 (by decide) ?_
                intro v3857 h3858
                refine q_icmp_ge 85 dX12_readAlp_50 (by decide) (fun h3859 => ?_) (fun h3859 => ?_)
                · skip
                  exfalso; omega
                · skip
                  refine tr_iload_n dX12_readAlp_53 rfl ?_
                  refine q_if_le 63 dX12_readAlp_54 (by decide) (fun h3860 => ?_) (fun h3860 => ?_)
                  · skip
                    exfalso; omega
                  · skip
                    refine tr_aload_n dX12_readAlp_57 rfl ?_
                    refine q_bipush dX12_readAlp_58 (by decide +kernel) ?_
                    intro v3861 h3862
                    refine q_callVv hE (M' := mX12_needsSign) (as := [_]) dX12_readAlp_60 lk12_257 inX12_needsSign seX12_needsSign myX12_needsSign (by decide) ⟨by decide, by decide⟩ rfl (kR15 hS3846.1 ta0) (Nat.le_of_ble_eq_true rfl) rfl rfl (by decide) (by decide) (k_X12_needsSign hS3846.1 ta0) ?_
                    rintro cn' K' N' I3863 R3864 L3865 ⟨rfl, rfl, rfl, rfl, g3866, w3868, -⟩
                    have hS3869 := hS3846.tr g3866 (by decide +kernel) (by decide +kernel)
                    have c3870 : I3863 a1 0 = v29 := (g3866.cell ta1 (by decide +kernel)).trans c3849
                    have c3871 : I3863 a1 1 = v33 := (g3866.cell ta1 (by decide +kernel)).trans c3850
                    have hO3872 : FrO 14 a1 T I0 I3863 := hO3854.st g3866 (by decide +kernel)
                    have ov3873 := w3868.over (by rw [c3851]; omega)
                    obtain ⟨v3874, c3875⟩ : ∃ v, I3863 a0 9 = v := ⟨_, rfl⟩
                    have b3876 := iv15_9 hS3869.1 ta0 c3875
                    obtain ⟨v3877, c3878⟩ : ∃ v, I3863 a0 13 = v := ⟨_, rfl⟩
                    obtain ⟨v3879, c3880⟩ : ∃ v, I3863 a0 14 = v := ⟨_, rfl⟩
                    (try rw [c3875] at ov3873)
                    (try rw [c3878] at ov3873)
                    (try rw [c3880] at ov3873)
                    (try rw [c3851] at ov3873)
                    (try rw [c3852] at ov3873)
                    (try rw [c3853] at ov3873)
                    refine tr_aload_n dX12_readAlp_63 rfl ?_
                    refine tr_getR dX12_readAlp_64 fl12_188 (kR15 hS3869.1 ta0) d2 ?_
                    refine tr_getR dX12_readAlp_67 fl12_260 (kR14 hS3869.1 ta1) d67 ?_
                    refine tr_iload_n dX12_readAlp_70 rfl ?_
                    refine tr_aload_n dX12_readAlp_71 rfl ?_
                    refine q_iconst dX12_readAlp_72 (by decide) ?_
                    intro v3881 h3882
                    refine q_bipush dX12_readAlp_73 (by decide +kernel) ?_
                    intro v3883 h3884
                    refine q_callVi hE (M' := mX12_readWhole) (as := [_, _]) dX12_readAlp_75 lk12_161 inX12_readWhole seX12_readWhole myX12_readWhole (by decide) ⟨by decide, by decide⟩ rfl (kR15 hS3869.1 ta0) (Nat.le_of_ble_eq_true rfl) rfl rfl (by decide) (by decide) (k_X12_readWhole hS3869.1 ta0) ?_
                    rintro v3889 cn' K' N' I3885 R3886 L3887 ⟨rfl, rfl, rfl, rfl, g3888, p3890, w3891, -⟩
                    have hS3892 := hS3869.tr g3888 (by decide +kernel) (by decide +kernel)
                    have c3893 : I3885 a1 0 = v29 := (g3888.cell ta1 (by decide +kernel)).trans c3870
                    have c3894 : I3885 a1 1 = v33 := (g3888.cell ta1 (by decide +kernel)).trans c3871
                    have b3895 : 0 ≤ v3889.toInt ∧ v3889.toInt ≤ 99 := by omega
                    clear p3890
                    have hO3896 : FrO 14 a1 T I0 I3885 := hO3872.st g3888 (by decide +kernel)
                    have ov3897 := w3891.over (by rw [c3875]; omega)
                    obtain ⟨v3898, c3899⟩ : ∃ v, I3885 a0 9 = v := ⟨_, rfl⟩
                    have b3900 := iv15_9 hS3892.1 ta0 c3899
                    obtain ⟨v3901, c3902⟩ : ∃ v, I3885 a0 13 = v := ⟨_, rfl⟩
                    obtain ⟨v3903, c3904⟩ : ∃ v, I3885 a0 14 = v := ⟨_, rfl⟩
                    (try rw [c3899] at ov3897)
                    (try rw [c3902] at ov3897)
                    (try rw [c3904] at ov3897)
                    (try rw [c3875] at ov3897)
                    (try rw [c3878] at ov3897)
                    (try rw [c3880] at ov3897)
                    refine q_iast dX12_readAlp_78 (kR53 hS3892.1 ta66) (ti_in (nR53 hS3892.1 ta66) (by omega) (by omega)) hS3892 ta66 (iokF rfl) rfl (by rfl) ?_
                    intro I3905 hS3906 e3908 f3907
                    have c3909 : I3905 a1 0 = v29 := (f3907 _ _ (fun q => by have z := ta1; rw [q.1, ta66] at z; exact absurd z (by decide))).trans c3893
                    have c3910 : I3905 a1 1 = v33 := (f3907 _ _ (fun q => by have z := ta1; rw [q.1, ta66] at z; exact absurd z (by decide))).trans c3894
                    have c3911 : I3905 a0 9 = v3898 := (f3907 _ _ (fun q => by have z := ta0; rw [q.1, ta66] at z; exact absurd z (by decide))).trans c3899
                    have c3912 : I3905 a0 13 = v3901 := (f3907 _ _ (fun q => by have z := ta0; rw [q.1, ta66] at z; exact absurd z (by decide))).trans c3902
                    have c3913 : I3905 a0 14 = v3903 := (f3907 _ _ (fun q => by have z := ta0; rw [q.1, ta66] at z; exact absurd z (by decide))).trans c3904
                    have hO3914 : FrO 14 a1 T I0 I3905 := hO3896.put f3907 ta66 (Or.inl (by decide))
                    refine q_iincE dX12_readAlp_79 rfl (by decide) (by decide) (by intros; omega) ?_
                    intro v3915 h3916
                    refine tr_goto 48 dX12_readAlp_82 (by decide) ?_
                    refine tr_iload_n dX12_readAlp_48 rfl ?_
                    refine q_iconst dX12_readAlp_49 (by decide) ?_
                    intro v3917 h3918
                    refine q_icmp_ge 85 dX12_readAlp_50 (by decide) (fun h3919 => ?_) (fun h3919 => ?_)
                    · skip
                      exfalso; omega
                    · skip
                      refine tr_iload_n dX12_readAlp_53 rfl ?_
                      refine q_if_le 63 dX12_readAlp_54 (by decide) (fun h3920 => ?_) (fun h3920 => ?_)
                      · skip
                        exfalso; omega
                      · skip
                        refine tr_aload_n dX12_readAlp_57 rfl ?_
                        refine q_bipush dX12_readAlp_58 (by decide +kernel) ?_
                        intro v3921 h3922
                        refine q_callVv hE (M' := mX12_needsSign) (as := [_]) dX12_readAlp_60 lk12_257 inX12_needsSign seX12_needsSign myX12_needsSign (by decide) ⟨by decide, by decide⟩ rfl (kR15 hS3906.1 ta0) (Nat.le_of_ble_eq_true rfl) rfl rfl (by decide) (by decide) (k_X12_needsSign hS3906.1 ta0) ?_
                        rintro cn' K' N' I3923 R3924 L3925 ⟨rfl, rfl, rfl, rfl, g3926, w3928, -⟩
                        have hS3929 := hS3906.tr g3926 (by decide +kernel) (by decide +kernel)
                        have c3930 : I3923 a1 0 = v29 := (g3926.cell ta1 (by decide +kernel)).trans c3909
                        have c3931 : I3923 a1 1 = v33 := (g3926.cell ta1 (by decide +kernel)).trans c3910
                        have hO3932 : FrO 14 a1 T I0 I3923 := hO3914.st g3926 (by decide +kernel)
                        have ov3933 := w3928.over (by rw [c3911]; omega)
                        obtain ⟨v3934, c3935⟩ : ∃ v, I3923 a0 9 = v := ⟨_, rfl⟩
                        have b3936 := iv15_9 hS3929.1 ta0 c3935
                        obtain ⟨v3937, c3938⟩ : ∃ v, I3923 a0 13 = v := ⟨_, rfl⟩
                        obtain ⟨v3939, c3940⟩ : ∃ v, I3923 a0 14 = v := ⟨_, rfl⟩
                        (try rw [c3935] at ov3933)
                        (try rw [c3938] at ov3933)
                        (try rw [c3940] at ov3933)
                        (try rw [c3911] at ov3933)
                        (try rw [c3912] at ov3933)
                        (try rw [c3913] at ov3933)
                        refine tr_aload_n dX12_readAlp_63 rfl ?_
                        refine tr_getR dX12_readAlp_64 fl12_188 (kR15 hS3929.1 ta0) d2 ?_
                        refine tr_getR dX12_readAlp_67 fl12_260 (kR14 hS3929.1 ta1) d67 ?_
                        refine tr_iload_n dX12_readAlp_70 rfl ?_
                        refine tr_aload_n dX12_readAlp_71 rfl ?_
                        refine q_iconst dX12_readAlp_72 (by decide) ?_
                        intro v3941 h3942
                        refine q_bipush dX12_readAlp_73 (by decide +kernel) ?_
                        intro v3943 h3944
                        refine q_callVi hE (M' := mX12_readWhole) (as := [_, _]) dX12_readAlp_75 lk12_161 inX12_readWhole seX12_readWhole myX12_readWhole (by decide) ⟨by decide, by decide⟩ rfl (kR15 hS3929.1 ta0) (Nat.le_of_ble_eq_true rfl) rfl rfl (by decide) (by decide) (k_X12_readWhole hS3929.1 ta0) ?_
                        rintro v3949 cn' K' N' I3945 R3946 L3947 ⟨rfl, rfl, rfl, rfl, g3948, p3950, w3951, -⟩
                        have hS3952 := hS3929.tr g3948 (by decide +kernel) (by decide +kernel)
                        have c3953 : I3945 a1 0 = v29 := (g3948.cell ta1 (by decide +kernel)).trans c3930
                        have c3954 : I3945 a1 1 = v33 := (g3948.cell ta1 (by decide +kernel)).trans c3931
                        have b3955 : 0 ≤ v3949.toInt ∧ v3949.toInt ≤ 99 := by omega
                        clear p3950
                        have hO3956 : FrO 14 a1 T I0 I3945 := hO3932.st g3948 (by decide +kernel)
                        have ov3957 := w3951.over (by rw [c3935]; omega)
                        obtain ⟨v3958, c3959⟩ : ∃ v, I3945 a0 9 = v := ⟨_, rfl⟩
                        have b3960 := iv15_9 hS3952.1 ta0 c3959
                        obtain ⟨v3961, c3962⟩ : ∃ v, I3945 a0 13 = v := ⟨_, rfl⟩
                        obtain ⟨v3963, c3964⟩ : ∃ v, I3945 a0 14 = v := ⟨_, rfl⟩
                        (try rw [c3959] at ov3957)
                        (try rw [c3962] at ov3957)
                        (try rw [c3964] at ov3957)
                        (try rw [c3935] at ov3957)
                        (try rw [c3938] at ov3957)
                        (try rw [c3940] at ov3957)
                        refine q_iast dX12_readAlp_78 (kR53 hS3952.1 ta66) (ti_in (nR53 hS3952.1 ta66) (by omega) (by omega)) hS3952 ta66 (iokF rfl) rfl (by rfl) ?_
                        intro I3965 hS3966 e3968 f3967
                        have c3969 : I3965 a1 0 = v29 := (f3967 _ _ (fun q => by have z := ta1; rw [q.1, ta66] at z; exact absurd z (by decide))).trans c3953
                        have c3970 : I3965 a1 1 = v33 := (f3967 _ _ (fun q => by have z := ta1; rw [q.1, ta66] at z; exact absurd z (by decide))).trans c3954
                        have c3971 : I3965 a0 9 = v3958 := (f3967 _ _ (fun q => by have z := ta0; rw [q.1, ta66] at z; exact absurd z (by decide))).trans c3959
                        have c3972 : I3965 a0 13 = v3961 := (f3967 _ _ (fun q => by have z := ta0; rw [q.1, ta66] at z; exact absurd z (by decide))).trans c3962
                        have c3973 : I3965 a0 14 = v3963 := (f3967 _ _ (fun q => by have z := ta0; rw [q.1, ta66] at z; exact absurd z (by decide))).trans c3964
                        have hO3974 : FrO 14 a1 T I0 I3965 := hO3956.put f3967 ta66 (Or.inl (by decide))
                        refine q_iincE dX12_readAlp_79 rfl (by decide) (by decide) (by intros; omega) ?_
                        intro v3975 h3976
                        refine tr_goto 48 dX12_readAlp_82 (by decide) ?_
                        refine tr_iload_n dX12_readAlp_48 rfl ?_
                        refine q_iconst dX12_readAlp_49 (by decide) ?_
                        intro v3977 h3978
                        refine q_icmp_ge 85 dX12_readAlp_50 (by decide) (fun h3979 => ?_) (fun h3979 => ?_)
                        · skip
                          exfalso; omega
                        · skip
                          refine tr_iload_n dX12_readAlp_53 rfl ?_
                          refine q_if_le 63 dX12_readAlp_54 (by decide) (fun h3980 => ?_) (fun h3980 => ?_)
                          · skip
                            exfalso; omega
                          · skip
                            refine tr_aload_n dX12_readAlp_57 rfl ?_
                            refine q_bipush dX12_readAlp_58 (by decide +kernel) ?_
                            intro v3981 h3982
                            refine q_callVv hE (M' := mX12_needsSign) (as := [_]) dX12_readAlp_60 lk12_257 inX12_needsSign seX12_needsSign myX12_needsSign (by decide) ⟨by decide, by decide⟩ rfl (kR15 hS3966.1 ta0) (Nat.le_of_ble_eq_true rfl) rfl rfl (by decide) (by decide) (k_X12_needsSign hS3966.1 ta0) ?_
                            rintro cn' K' N' I3983 R3984 L3985 ⟨rfl, rfl, rfl, rfl, g3986, w3988, -⟩
                            have hS3989 := hS3966.tr g3986 (by decide +kernel) (by decide +kernel)
                            have c3990 : I3983 a1 0 = v29 := (g3986.cell ta1 (by decide +kernel)).trans c3969
                            have c3991 : I3983 a1 1 = v33 := (g3986.cell ta1 (by decide +kernel)).trans c3970
                            have hO3992 : FrO 14 a1 T I0 I3983 := hO3974.st g3986 (by decide +kernel)
                            have ov3993 := w3988.over (by rw [c3971]; omega)
                            obtain ⟨v3994, c3995⟩ : ∃ v, I3983 a0 9 = v := ⟨_, rfl⟩
                            have b3996 := iv15_9 hS3989.1 ta0 c3995
                            obtain ⟨v3997, c3998⟩ : ∃ v, I3983 a0 13 = v := ⟨_, rfl⟩
                            obtain ⟨v3999, c4000⟩ : ∃ v, I3983 a0 14 = v := ⟨_, rfl⟩
                            (try rw [c3995] at ov3993)
                            (try rw [c3998] at ov3993)
                            (try rw [c4000] at ov3993)
                            (try rw [c3971] at ov3993)
                            (try rw [c3972] at ov3993)
                            (try rw [c3973] at ov3993)
                            refine tr_aload_n dX12_readAlp_63 rfl ?_
                            refine tr_getR dX12_readAlp_64 fl12_188 (kR15 hS3989.1 ta0) d2 ?_
                            refine tr_getR dX12_readAlp_67 fl12_260 (kR14 hS3989.1 ta1) d67 ?_
                            refine tr_iload_n dX12_readAlp_70 rfl ?_
                            refine tr_aload_n dX12_readAlp_71 rfl ?_
                            refine q_iconst dX12_readAlp_72 (by decide) ?_
                            intro v4001 h4002
                            refine q_bipush dX12_readAlp_73 (by decide +kernel) ?_
                            intro v4003 h4004
                            refine q_callVi hE (M' := mX12_readWhole) (as := [_, _]) dX12_readAlp_75 lk12_161 inX12_readWhole seX12_readWhole myX12_readWhole (by decide) ⟨by decide, by decide⟩ rfl (kR15 hS3989.1 ta0) (Nat.le_of_ble_eq_true rfl) rfl rfl (by decide) (by decide) (k_X12_readWhole hS3989.1 ta0) ?_
                            rintro v4009 cn' K' N' I4005 R4006 L4007 ⟨rfl, rfl, rfl, rfl, g4008, p4010, w4011, -⟩
                            have hS4012 := hS3989.tr g4008 (by decide +kernel) (by decide +kernel)
                            have c4013 : I4005 a1 0 = v29 := (g4008.cell ta1 (by decide +kernel)).trans c3990
                            have c4014 : I4005 a1 1 = v33 := (g4008.cell ta1 (by decide +kernel)).trans c3991
                            have b4015 : 0 ≤ v4009.toInt ∧ v4009.toInt ≤ 99 := by omega
                            clear p4010
                            have hO4016 : FrO 14 a1 T I0 I4005 := hO3992.st g4008 (by decide +kernel)
                            have ov4017 := w4011.over (by rw [c3995]; omega)
                            obtain ⟨v4018, c4019⟩ : ∃ v, I4005 a0 9 = v := ⟨_, rfl⟩
                            have b4020 := iv15_9 hS4012.1 ta0 c4019
                            obtain ⟨v4021, c4022⟩ : ∃ v, I4005 a0 13 = v := ⟨_, rfl⟩
                            obtain ⟨v4023, c4024⟩ : ∃ v, I4005 a0 14 = v := ⟨_, rfl⟩
                            (try rw [c4019] at ov4017)
                            (try rw [c4022] at ov4017)
                            (try rw [c4024] at ov4017)
                            (try rw [c3995] at ov4017)
                            (try rw [c3998] at ov4017)
                            (try rw [c4000] at ov4017)
                            refine q_iast dX12_readAlp_78 (kR53 hS4012.1 ta66) (ti_in (nR53 hS4012.1 ta66) (by omega) (by omega)) hS4012 ta66 (iokF rfl) rfl (by rfl) ?_
                            intro I4025 hS4026 e4028 f4027
                            have c4029 : I4025 a1 0 = v29 := (f4027 _ _ (fun q => by have z := ta1; rw [q.1, ta66] at z; exact absurd z (by decide))).trans c4013
                            have c4030 : I4025 a1 1 = v33 := (f4027 _ _ (fun q => by have z := ta1; rw [q.1, ta66] at z; exact absurd z (by decide))).trans c4014
                            have c4031 : I4025 a0 9 = v4018 := (f4027 _ _ (fun q => by have z := ta0; rw [q.1, ta66] at z; exact absurd z (by decide))).trans c4019
                            have c4032 : I4025 a0 13 = v4021 := (f4027 _ _ (fun q => by have z := ta0; rw [q.1, ta66] at z; exact absurd z (by decide))).trans c4022
                            have c4033 : I4025 a0 14 = v4023 := (f4027 _ _ (fun q => by have z := ta0; rw [q.1, ta66] at z; exact absurd z (by decide))).trans c4024
                            have hO4034 : FrO 14 a1 T I0 I4025 := hO4016.put f4027 ta66 (Or.inl (by decide))
                            refine q_iincE dX12_readAlp_79 rfl (by decide) (by decide) (by intros; omega) ?_
                            intro v4035 h4036
                            refine tr_goto 48 dX12_readAlp_82 (by decide) ?_
                            refine tr_iload_n dX12_readAlp_48 rfl ?_
                            refine q_iconst dX12_readAlp_49 (by decide) ?_
                            intro v4037 h4038
                            refine q_icmp_ge 85 dX12_readAlp_50 (by decide) (fun h4039 => ?_) (fun h4039 => ?_)
                            · skip
                              refine tr_aload_n dX12_readAlp_85 rfl ?_
                              refine q_getI dX12_readAlp_86 fl12_99 (kR15 hS4026.1 ta0) c4031 ?_
                              refine q_iconst dX12_readAlp_89 (by decide) ?_
                              intro v4040 h4041
                              refine q_icmp_ne 94 dX12_readAlp_90 (by decide) (fun h4042 => ?_) (fun h4042 => ?_)
                              · skip
                                exfalso; omega
                              · skip
                                have eF := hF.eq
                                have eP := hP.eq
                                obtain ⟨v4043, c4044⟩ : ∃ v, I4025 a0 10 = v := ⟨_, rfl⟩
                                have b4045 := iv15_10 hS4026.1 ta0 c4044
                                obtain ⟨v4046, c4047⟩ : ∃ v, I4025 a0 11 = v := ⟨_, rfl⟩
                                obtain ⟨y4048, c4049⟩ : ∃ v, L4007 a0 15 = v := ⟨_, rfl⟩
                                obtain ⟨v4050, c4051⟩ : ∃ v, I4025 a0 12 = v := ⟨_, rfl⟩
                                obtain ⟨v4052, c4053⟩ : ∃ v, I4025 a0 8 = v := ⟨_, rfl⟩
                                have b4054 := iv15_8 hS4026.1 ta0 c4053
                                exact tr_vret hZ dX12_readAlp_93 rfl (by decide) (by decide) ⟨rfl, rfl, rfl, rfl, rfl, hS4026, (fun b hb => (Option.some.inj (d2.symm.trans hb)) ▸ (((((((((((((((((((FrM.rf (R := R0) (b := a1) (T := T)).st g74 (by decide +kernel)).st g126 (by decide +kernel)).st g196 (by decide +kernel)).st g3740 (by decide +kernel)).st g3768 (by decide +kernel)).pu f3787 (by decide) (by decide) d67).st g3806 (by decide +kernel)).st g3828 (by decide +kernel)).pu f3847 (by decide) (by decide) d67).st g3866 (by decide +kernel)).st g3888 (by decide +kernel)).pu f3907 (by decide) (by decide) d67).st g3926 (by decide +kernel)).st g3948 (by decide +kernel)).pu f3967 (by decide) (by decide) d67).st g3986 (by decide +kernel)).st g4008 (by decide +kernel)).pu f4027 (by decide) (by decide) d67)), (fun dr hd => (Option.some.inj (d2.symm.trans hd)) ▸ hO4034), (Or.inr (⟨(by (try rw [w109]); first | done | with_reducible assumption | omega), (by (try rw [w109]); (try rw [c4031]); first | done | with_reducible assumption | omega), (by (try rw [w109]); (try rw [c4032]); first | done | with_reducible assumption | omega), (by (try rw [w109]); (try rw [c4033]); first | done | with_reducible assumption | omega), trivial⟩)), trivial⟩
                            · skip
                              exfalso; omega
          · skip
            exfalso; omega
      · skip
        obtain ⟨v4055, c4056⟩ : ∃ v, I193 a0 9 = v := ⟨_, rfl⟩
        have b4057 := iv15_9 hS201.1 ta0 c4056
        rw [c4056] at p237
        obtain ⟨v4058, c4059⟩ : ∃ v, I193 a0 13 = v := ⟨_, rfl⟩
        rw [c4059] at p238
        obtain ⟨v4060, c4061⟩ : ∃ v, I193 a0 14 = v := ⟨_, rfl⟩
        rw [c4061] at p239
        replace hF := hF.neg (by omega)
        replace hP := hP.neg (by omega)
        replace hF := hF.neg (by omega)
        replace hP := hP.neg (by omega)
        replace hF := hF.pos (by omega)
        replace hP := hP.pos (by omega)
        refine tr_istore_n dX12_readAlp_39 (by decide) (by decide) ?_
        refine tr_aload_n dX12_readAlp_40 rfl ?_
        refine tr_ldcS dX12_readAlp_41 ld12_255 ?_
        refine q_callVv hE (M' := mX12_needs) (as := [_]) dX12_readAlp_43 lk12_157 inX12_needs seX12_needs myX12_needs (by decide) ⟨by decide, by decide⟩ rfl (kR15 hS201.1 ta0) (Nat.le_of_ble_eq_true rfl) rfl rfl (by decide) (by decide) (k_X12_needs hS201.1 ta0 (by decide)) ?_
        rintro cn' K' N' I4062 R4063 L4064 ⟨rfl, rfl, rfl, rfl, g4065, w4067, -⟩
        have hS4068 := hS201.tr g4065 (by decide +kernel) (by decide +kernel)
        have c4069 : I4062 a1 0 = v29 := (g4065.cell ta1 (by decide +kernel)).trans c202
        have c4070 : I4062 a1 1 = v33 := (g4065.cell ta1 (by decide +kernel)).trans c203
        have hO4071 : FrO 14 a1 T I0 I4062 := hO204.st g4065 (by decide +kernel)
        have ov4072 := w4067.over (by rw [c4056]; omega)
        obtain ⟨v4073, c4074⟩ : ∃ v, I4062 a0 9 = v := ⟨_, rfl⟩
        have b4075 := iv15_9 hS4068.1 ta0 c4074
        obtain ⟨v4076, c4077⟩ : ∃ v, I4062 a0 13 = v := ⟨_, rfl⟩
        obtain ⟨v4078, c4079⟩ : ∃ v, I4062 a0 14 = v := ⟨_, rfl⟩
        (try rw [c4074] at ov4072)
        (try rw [c4077] at ov4072)
        (try rw [c4079] at ov4072)
        (try rw [c4056] at ov4072)
        (try rw [c4059] at ov4072)
        (try rw [c4061] at ov4072)
        refine q_iconst dX12_readAlp_46 (by decide) ?_
        intro v4080 h4081
        refine tr_istore_n dX12_readAlp_47 (by decide) (by decide) ?_
        refine tr_iload_n dX12_readAlp_48 rfl ?_
        refine q_iconst dX12_readAlp_49 (by decide) ?_
        intro v4082 h4083
        refine q_icmp_ge 85 dX12_readAlp_50 (by decide) (fun h4084 => ?_) (fun h4084 => ?_)
        · skip
          exfalso; omega
        · skip
          refine tr_iload_n dX12_readAlp_53 rfl ?_
          refine q_if_le 63 dX12_readAlp_54 (by decide) (fun h4085 => ?_) (fun h4085 => ?_)
          · skip
            refine tr_aload_n dX12_readAlp_63 rfl ?_
            refine tr_getR dX12_readAlp_64 fl12_188 (kR15 hS4068.1 ta0) d2 ?_
            refine tr_getR dX12_readAlp_67 fl12_260 (kR14 hS4068.1 ta1) d67 ?_
            refine tr_iload_n dX12_readAlp_70 rfl ?_
            refine tr_aload_n dX12_readAlp_71 rfl ?_
            refine q_iconst dX12_readAlp_72 (by decide) ?_
            intro v4086 h4087
            refine q_bipush dX12_readAlp_73 (by decide +kernel) ?_
            intro v4088 h4089
            refine q_callVi hE (M' := mX12_readWhole) (as := [_, _]) dX12_readAlp_75 lk12_161 inX12_readWhole seX12_readWhole myX12_readWhole (by decide) ⟨by decide, by decide⟩ rfl (kR15 hS4068.1 ta0) (Nat.le_of_ble_eq_true rfl) rfl rfl (by decide) (by decide) (k_X12_readWhole hS4068.1 ta0) ?_
            rintro v4094 cn' K' N' I4090 R4091 L4092 ⟨rfl, rfl, rfl, rfl, g4093, p4095, w4096, -⟩
            have hS4097 := hS4068.tr g4093 (by decide +kernel) (by decide +kernel)
            have c4098 : I4090 a1 0 = v29 := (g4093.cell ta1 (by decide +kernel)).trans c4069
            have c4099 : I4090 a1 1 = v33 := (g4093.cell ta1 (by decide +kernel)).trans c4070
            have b4100 : 0 ≤ v4094.toInt ∧ v4094.toInt ≤ 99 := by omega
            clear p4095
            have hO4101 : FrO 14 a1 T I0 I4090 := hO4071.st g4093 (by decide +kernel)
            have ov4102 := w4096.over (by rw [c4074]; omega)
            obtain ⟨v4103, c4104⟩ : ∃ v, I4090 a0 9 = v := ⟨_, rfl⟩
            have b4105 := iv15_9 hS4097.1 ta0 c4104
            obtain ⟨v4106, c4107⟩ : ∃ v, I4090 a0 13 = v := ⟨_, rfl⟩
            obtain ⟨v4108, c4109⟩ : ∃ v, I4090 a0 14 = v := ⟨_, rfl⟩
            (try rw [c4104] at ov4102)
            (try rw [c4107] at ov4102)
            (try rw [c4109] at ov4102)
            (try rw [c4074] at ov4102)
            (try rw [c4077] at ov4102)
            (try rw [c4079] at ov4102)
            refine q_iast dX12_readAlp_78 (kR53 hS4097.1 ta66) (ti_in (nR53 hS4097.1 ta66) (by omega) (by omega)) hS4097 ta66 (iokF rfl) rfl (by rfl) ?_
            intro I4110 hS4111 e4113 f4112
            have c4114 : I4110 a1 0 = v29 := (f4112 _ _ (fun q => by have z := ta1; rw [q.1, ta66] at z; exact absurd z (by decide))).trans c4098
            have c4115 : I4110 a1 1 = v33 := (f4112 _ _ (fun q => by have z := ta1; rw [q.1, ta66] at z; exact absurd z (by decide))).trans c4099
            have c4116 : I4110 a0 9 = v4103 := (f4112 _ _ (fun q => by have z := ta0; rw [q.1, ta66] at z; exact absurd z (by decide))).trans c4104
            have c4117 : I4110 a0 13 = v4106 := (f4112 _ _ (fun q => by have z := ta0; rw [q.1, ta66] at z; exact absurd z (by decide))).trans c4107
            have c4118 : I4110 a0 14 = v4108 := (f4112 _ _ (fun q => by have z := ta0; rw [q.1, ta66] at z; exact absurd z (by decide))).trans c4109
            have hO4119 : FrO 14 a1 T I0 I4110 := hO4101.put f4112 ta66 (Or.inl (by decide))
            refine q_iincE dX12_readAlp_79 rfl (by decide) (by decide) (by intros; omega) ?_
            intro v4120 h4121
            refine tr_goto 48 dX12_readAlp_82 (by decide) ?_
            refine tr_iload_n dX12_readAlp_48 rfl ?_
            refine q_iconst dX12_readAlp_49 (by decide) ?_
            intro v4122 h4123
            refine q_icmp_ge 85 dX12_readAlp_50 (by decide) (fun h4124 => ?_) (fun h4124 => ?_)
            · skip
              exfalso; omega
            · skip
              refine tr_iload_n dX12_readAlp_53 rfl ?_
              refine q_if_le 63 dX12_readAlp_54 (by decide) (fun h4125 => ?_) (fun h4125 => ?_)
              · skip
                exfalso; omega
              · skip
                refine tr_aload_n dX12_readAlp_57 rfl ?_
                refine q_bipush dX12_readAlp_58 (by decide +kernel) ?_
                intro v4126 h4127
                refine q_callVv hE (M' := mX12_needsSign) (as := [_]) dX12_readAlp_60 lk12_257 inX12_needsSign seX12_needsSign myX12_needsSign (by decide) ⟨by decide, by decide⟩ rfl (kR15 hS4111.1 ta0) (Nat.le_of_ble_eq_true rfl) rfl rfl (by decide) (by decide) (k_X12_needsSign hS4111.1 ta0) ?_
                rintro cn' K' N' I4128 R4129 L4130 ⟨rfl, rfl, rfl, rfl, g4131, w4133, -⟩
                have hS4134 := hS4111.tr g4131 (by decide +kernel) (by decide +kernel)
                have c4135 : I4128 a1 0 = v29 := (g4131.cell ta1 (by decide +kernel)).trans c4114
                have c4136 : I4128 a1 1 = v33 := (g4131.cell ta1 (by decide +kernel)).trans c4115
                have hO4137 : FrO 14 a1 T I0 I4128 := hO4119.st g4131 (by decide +kernel)
                have ov4138 := w4133.over (by rw [c4116]; omega)
                obtain ⟨v4139, c4140⟩ : ∃ v, I4128 a0 9 = v := ⟨_, rfl⟩
                have b4141 := iv15_9 hS4134.1 ta0 c4140
                obtain ⟨v4142, c4143⟩ : ∃ v, I4128 a0 13 = v := ⟨_, rfl⟩
                obtain ⟨v4144, c4145⟩ : ∃ v, I4128 a0 14 = v := ⟨_, rfl⟩
                (try rw [c4140] at ov4138)
                (try rw [c4143] at ov4138)
                (try rw [c4145] at ov4138)
                (try rw [c4116] at ov4138)
                (try rw [c4117] at ov4138)
                (try rw [c4118] at ov4138)
                refine tr_aload_n dX12_readAlp_63 rfl ?_
                refine tr_getR dX12_readAlp_64 fl12_188 (kR15 hS4134.1 ta0) d2 ?_
                refine tr_getR dX12_readAlp_67 fl12_260 (kR14 hS4134.1 ta1) d67 ?_
                refine tr_iload_n dX12_readAlp_70 rfl ?_
                refine tr_aload_n dX12_readAlp_71 rfl ?_
                refine q_iconst dX12_readAlp_72 (by decide) ?_
                intro v4146 h4147
                refine q_bipush dX12_readAlp_73 (by decide +kernel) ?_
                intro v4148 h4149
                refine q_callVi hE (M' := mX12_readWhole) (as := [_, _]) dX12_readAlp_75 lk12_161 inX12_readWhole seX12_readWhole myX12_readWhole (by decide) ⟨by decide, by decide⟩ rfl (kR15 hS4134.1 ta0) (Nat.le_of_ble_eq_true rfl) rfl rfl (by decide) (by decide) (k_X12_readWhole hS4134.1 ta0) ?_
                rintro v4154 cn' K' N' I4150 R4151 L4152 ⟨rfl, rfl, rfl, rfl, g4153, p4155, w4156, -⟩
                have hS4157 := hS4134.tr g4153 (by decide +kernel) (by decide +kernel)
                have c4158 : I4150 a1 0 = v29 := (g4153.cell ta1 (by decide +kernel)).trans c4135
                have c4159 : I4150 a1 1 = v33 := (g4153.cell ta1 (by decide +kernel)).trans c4136
                have b4160 : 0 ≤ v4154.toInt ∧ v4154.toInt ≤ 99 := by omega
                clear p4155
                have hO4161 : FrO 14 a1 T I0 I4150 := hO4137.st g4153 (by decide +kernel)
                have ov4162 := w4156.over (by rw [c4140]; omega)
                obtain ⟨v4163, c4164⟩ : ∃ v, I4150 a0 9 = v := ⟨_, rfl⟩
                have b4165 := iv15_9 hS4157.1 ta0 c4164
                obtain ⟨v4166, c4167⟩ : ∃ v, I4150 a0 13 = v := ⟨_, rfl⟩
                obtain ⟨v4168, c4169⟩ : ∃ v, I4150 a0 14 = v := ⟨_, rfl⟩
                (try rw [c4164] at ov4162)
                (try rw [c4167] at ov4162)
                (try rw [c4169] at ov4162)
                (try rw [c4140] at ov4162)
                (try rw [c4143] at ov4162)
                (try rw [c4145] at ov4162)
                refine q_iast dX12_readAlp_78 (kR53 hS4157.1 ta66) (ti_in (nR53 hS4157.1 ta66) (by omega) (by omega)) hS4157 ta66 (iokF rfl) rfl (by rfl) ?_
                intro I4170 hS4171 e4173 f4172
                have c4174 : I4170 a1 0 = v29 := (f4172 _ _ (fun q => by have z := ta1; rw [q.1, ta66] at z; exact absurd z (by decide))).trans c4158
                have c4175 : I4170 a1 1 = v33 := (f4172 _ _ (fun q => by have z := ta1; rw [q.1, ta66] at z; exact absurd z (by decide))).trans c4159
                have c4176 : I4170 a0 9 = v4163 := (f4172 _ _ (fun q => by have z := ta0; rw [q.1, ta66] at z; exact absurd z (by decide))).trans c4164
                have c4177 : I4170 a0 13 = v4166 := (f4172 _ _ (fun q => by have z := ta0; rw [q.1, ta66] at z; exact absurd z (by decide))).trans c4167
                have c4178 : I4170 a0 14 = v4168 := (f4172 _ _ (fun q => by have z := ta0; rw [q.1, ta66] at z; exact absurd z (by decide))).trans c4169
                have hO4179 : FrO 14 a1 T I0 I4170 := hO4161.put f4172 ta66 (Or.inl (by decide))
                refine q_iincE dX12_readAlp_79 rfl (by decide) (by decide) (by intros; omega) ?_
                intro v4180 h4181
                refine tr_goto 48 dX12_readAlp_82 (by decide) ?_
                refine tr_iload_n dX12_readAlp_48 rfl ?_
                refine q_iconst dX12_readAlp_49 (by decide) ?_
                intro v4182 h4183
                refine q_icmp_ge 85 dX12_readAlp_50 (by decide) (fun h4184 => ?_) (fun h4184 => ?_)
                · skip
                  exfalso; omega
                · skip
                  refine tr_iload_n dX12_readAlp_53 rfl ?_
                  refine q_if_le 63 dX12_readAlp_54 (by decide) (fun h4185 => ?_) (fun h4185 => ?_)
                  · skip
                    exfalso; omega
                  · skip
                    refine tr_aload_n dX12_readAlp_57 rfl ?_
                    refine q_bipush dX12_readAlp_58 (by decide +kernel) ?_
                    intro v4186 h4187
                    refine q_callVv hE (M' := mX12_needsSign) (as := [_]) dX12_readAlp_60 lk12_257 inX12_needsSign seX12_needsSign myX12_needsSign (by decide) ⟨by decide, by decide⟩ rfl (kR15 hS4171.1 ta0) (Nat.le_of_ble_eq_true rfl) rfl rfl (by decide) (by decide) (k_X12_needsSign hS4171.1 ta0) ?_
                    rintro cn' K' N' I4188 R4189 L4190 ⟨rfl, rfl, rfl, rfl, g4191, w4193, -⟩
                    have hS4194 := hS4171.tr g4191 (by decide +kernel) (by decide +kernel)
                    have c4195 : I4188 a1 0 = v29 := (g4191.cell ta1 (by decide +kernel)).trans c4174
                    have c4196 : I4188 a1 1 = v33 := (g4191.cell ta1 (by decide +kernel)).trans c4175
                    have hO4197 : FrO 14 a1 T I0 I4188 := hO4179.st g4191 (by decide +kernel)
                    have ov4198 := w4193.over (by rw [c4176]; omega)
                    obtain ⟨v4199, c4200⟩ : ∃ v, I4188 a0 9 = v := ⟨_, rfl⟩
                    have b4201 := iv15_9 hS4194.1 ta0 c4200
                    obtain ⟨v4202, c4203⟩ : ∃ v, I4188 a0 13 = v := ⟨_, rfl⟩
                    obtain ⟨v4204, c4205⟩ : ∃ v, I4188 a0 14 = v := ⟨_, rfl⟩
                    (try rw [c4200] at ov4198)
                    (try rw [c4203] at ov4198)
                    (try rw [c4205] at ov4198)
                    (try rw [c4176] at ov4198)
                    (try rw [c4177] at ov4198)
                    (try rw [c4178] at ov4198)
                    refine tr_aload_n dX12_readAlp_63 rfl ?_
                    refine tr_getR dX12_readAlp_64 fl12_188 (kR15 hS4194.1 ta0) d2 ?_
                    refine tr_getR dX12_readAlp_67 fl12_260 (kR14 hS4194.1 ta1) d67 ?_
                    refine tr_iload_n dX12_readAlp_70 rfl ?_
                    refine tr_aload_n dX12_readAlp_71 rfl ?_
                    refine q_iconst dX12_readAlp_72 (by decide) ?_
                    intro v4206 h4207
                    refine q_bipush dX12_readAlp_73 (by decide +kernel) ?_
                    intro v4208 h4209
                    refine q_callVi hE (M' := mX12_readWhole) (as := [_, _]) dX12_readAlp_75 lk12_161 inX12_readWhole seX12_readWhole myX12_readWhole (by decide) ⟨by decide, by decide⟩ rfl (kR15 hS4194.1 ta0) (Nat.le_of_ble_eq_true rfl) rfl rfl (by decide) (by decide) (k_X12_readWhole hS4194.1 ta0) ?_
                    rintro v4214 cn' K' N' I4210 R4211 L4212 ⟨rfl, rfl, rfl, rfl, g4213, p4215, w4216, -⟩
                    have hS4217 := hS4194.tr g4213 (by decide +kernel) (by decide +kernel)
                    have c4218 : I4210 a1 0 = v29 := (g4213.cell ta1 (by decide +kernel)).trans c4195
                    have c4219 : I4210 a1 1 = v33 := (g4213.cell ta1 (by decide +kernel)).trans c4196
                    have b4220 : 0 ≤ v4214.toInt ∧ v4214.toInt ≤ 99 := by omega
                    clear p4215
                    have hO4221 : FrO 14 a1 T I0 I4210 := hO4197.st g4213 (by decide +kernel)
                    have ov4222 := w4216.over (by rw [c4200]; omega)
                    obtain ⟨v4223, c4224⟩ : ∃ v, I4210 a0 9 = v := ⟨_, rfl⟩
                    have b4225 := iv15_9 hS4217.1 ta0 c4224
                    obtain ⟨v4226, c4227⟩ : ∃ v, I4210 a0 13 = v := ⟨_, rfl⟩
                    obtain ⟨v4228, c4229⟩ : ∃ v, I4210 a0 14 = v := ⟨_, rfl⟩
                    (try rw [c4224] at ov4222)
                    (try rw [c4227] at ov4222)
                    (try rw [c4229] at ov4222)
                    (try rw [c4200] at ov4222)
                    (try rw [c4203] at ov4222)
                    (try rw [c4205] at ov4222)
                    refine q_iast dX12_readAlp_78 (kR53 hS4217.1 ta66) (ti_in (nR53 hS4217.1 ta66) (by omega) (by omega)) hS4217 ta66 (iokF rfl) rfl (by rfl) ?_
                    intro I4230 hS4231 e4233 f4232
                    have c4234 : I4230 a1 0 = v29 := (f4232 _ _ (fun q => by have z := ta1; rw [q.1, ta66] at z; exact absurd z (by decide))).trans c4218
                    have c4235 : I4230 a1 1 = v33 := (f4232 _ _ (fun q => by have z := ta1; rw [q.1, ta66] at z; exact absurd z (by decide))).trans c4219
                    have c4236 : I4230 a0 9 = v4223 := (f4232 _ _ (fun q => by have z := ta0; rw [q.1, ta66] at z; exact absurd z (by decide))).trans c4224
                    have c4237 : I4230 a0 13 = v4226 := (f4232 _ _ (fun q => by have z := ta0; rw [q.1, ta66] at z; exact absurd z (by decide))).trans c4227
                    have c4238 : I4230 a0 14 = v4228 := (f4232 _ _ (fun q => by have z := ta0; rw [q.1, ta66] at z; exact absurd z (by decide))).trans c4229
                    have hO4239 : FrO 14 a1 T I0 I4230 := hO4221.put f4232 ta66 (Or.inl (by decide))
                    refine q_iincE dX12_readAlp_79 rfl (by decide) (by decide) (by intros; omega) ?_
                    intro v4240 h4241
                    refine tr_goto 48 dX12_readAlp_82 (by decide) ?_
                    refine tr_iload_n dX12_readAlp_48 rfl ?_
                    refine q_iconst dX12_readAlp_49 (by decide) ?_
                    intro v4242 h4243
                    refine q_icmp_ge 85 dX12_readAlp_50 (by decide) (fun h4244 => ?_) (fun h4244 => ?_)
                    · skip
                      exfalso; omega
                    · skip
                      refine tr_iload_n dX12_readAlp_53 rfl ?_
                      refine q_if_le 63 dX12_readAlp_54 (by decide) (fun h4245 => ?_) (fun h4245 => ?_)
                      · skip
                        exfalso; omega
                      · skip
                        refine tr_aload_n dX12_readAlp_57 rfl ?_
                        refine q_bipush dX12_readAlp_58 (by decide +kernel) ?_
                        intro v4246 h4247
                        refine q_callVv hE (M' := mX12_needsSign) (as := [_]) dX12_readAlp_60 lk12_257 inX12_needsSign seX12_needsSign myX12_needsSign (by decide) ⟨by decide, by decide⟩ rfl (kR15 hS4231.1 ta0) (Nat.le_of_ble_eq_true rfl) rfl rfl (by decide) (by decide) (k_X12_needsSign hS4231.1 ta0) ?_
                        rintro cn' K' N' I4248 R4249 L4250 ⟨rfl, rfl, rfl, rfl, g4251, w4253, -⟩
                        have hS4254 := hS4231.tr g4251 (by decide +kernel) (by decide +kernel)
                        have c4255 : I4248 a1 0 = v29 := (g4251.cell ta1 (by decide +kernel)).trans c4234
                        have c4256 : I4248 a1 1 = v33 := (g4251.cell ta1 (by decide +kernel)).trans c4235
                        have hO4257 : FrO 14 a1 T I0 I4248 := hO4239.st g4251 (by decide +kernel)
                        have ov4258 := w4253.over (by rw [c4236]; omega)
                        obtain ⟨v4259, c4260⟩ : ∃ v, I4248 a0 9 = v := ⟨_, rfl⟩
                        have b4261 := iv15_9 hS4254.1 ta0 c4260
                        obtain ⟨v4262, c4263⟩ : ∃ v, I4248 a0 13 = v := ⟨_, rfl⟩
                        obtain ⟨v4264, c4265⟩ : ∃ v, I4248 a0 14 = v := ⟨_, rfl⟩
                        (try rw [c4260] at ov4258)
                        (try rw [c4263] at ov4258)
                        (try rw [c4265] at ov4258)
                        (try rw [c4236] at ov4258)
                        (try rw [c4237] at ov4258)
                        (try rw [c4238] at ov4258)
                        refine tr_aload_n dX12_readAlp_63 rfl ?_
                        refine tr_getR dX12_readAlp_64 fl12_188 (kR15 hS4254.1 ta0) d2 ?_
                        refine tr_getR dX12_readAlp_67 fl12_260 (kR14 hS4254.1 ta1) d67 ?_
                        refine tr_iload_n dX12_readAlp_70 rfl ?_
                        refine tr_aload_n dX12_readAlp_71 rfl ?_
                        refine q_iconst dX12_readAlp_72 (by decide) ?_
                        intro v4266 h4267
                        refine q_bipush dX12_readAlp_73 (by decide +kernel) ?_
                        intro v4268 h4269
                        refine q_callVi hE (M' := mX12_readWhole) (as := [_, _]) dX12_readAlp_75 lk12_161 inX12_readWhole seX12_readWhole myX12_readWhole (by decide) ⟨by decide, by decide⟩ rfl (kR15 hS4254.1 ta0) (Nat.le_of_ble_eq_true rfl) rfl rfl (by decide) (by decide) (k_X12_readWhole hS4254.1 ta0) ?_
                        rintro v4274 cn' K' N' I4270 R4271 L4272 ⟨rfl, rfl, rfl, rfl, g4273, p4275, w4276, -⟩
                        have hS4277 := hS4254.tr g4273 (by decide +kernel) (by decide +kernel)
                        have c4278 : I4270 a1 0 = v29 := (g4273.cell ta1 (by decide +kernel)).trans c4255
                        have c4279 : I4270 a1 1 = v33 := (g4273.cell ta1 (by decide +kernel)).trans c4256
                        have b4280 : 0 ≤ v4274.toInt ∧ v4274.toInt ≤ 99 := by omega
                        clear p4275
                        have hO4281 : FrO 14 a1 T I0 I4270 := hO4257.st g4273 (by decide +kernel)
                        have ov4282 := w4276.over (by rw [c4260]; omega)
                        obtain ⟨v4283, c4284⟩ : ∃ v, I4270 a0 9 = v := ⟨_, rfl⟩
                        have b4285 := iv15_9 hS4277.1 ta0 c4284
                        obtain ⟨v4286, c4287⟩ : ∃ v, I4270 a0 13 = v := ⟨_, rfl⟩
                        obtain ⟨v4288, c4289⟩ : ∃ v, I4270 a0 14 = v := ⟨_, rfl⟩
                        (try rw [c4284] at ov4282)
                        (try rw [c4287] at ov4282)
                        (try rw [c4289] at ov4282)
                        (try rw [c4260] at ov4282)
                        (try rw [c4263] at ov4282)
                        (try rw [c4265] at ov4282)
                        refine q_iast dX12_readAlp_78 (kR53 hS4277.1 ta66) (ti_in (nR53 hS4277.1 ta66) (by omega) (by omega)) hS4277 ta66 (iokF rfl) rfl (by rfl) ?_
                        intro I4290 hS4291 e4293 f4292
                        have c4294 : I4290 a1 0 = v29 := (f4292 _ _ (fun q => by have z := ta1; rw [q.1, ta66] at z; exact absurd z (by decide))).trans c4278
                        have c4295 : I4290 a1 1 = v33 := (f4292 _ _ (fun q => by have z := ta1; rw [q.1, ta66] at z; exact absurd z (by decide))).trans c4279
                        have c4296 : I4290 a0 9 = v4283 := (f4292 _ _ (fun q => by have z := ta0; rw [q.1, ta66] at z; exact absurd z (by decide))).trans c4284
                        have c4297 : I4290 a0 13 = v4286 := (f4292 _ _ (fun q => by have z := ta0; rw [q.1, ta66] at z; exact absurd z (by decide))).trans c4287
                        have c4298 : I4290 a0 14 = v4288 := (f4292 _ _ (fun q => by have z := ta0; rw [q.1, ta66] at z; exact absurd z (by decide))).trans c4289
                        have hO4299 : FrO 14 a1 T I0 I4290 := hO4281.put f4292 ta66 (Or.inl (by decide))
                        refine q_iincE dX12_readAlp_79 rfl (by decide) (by decide) (by intros; omega) ?_
                        intro v4300 h4301
                        refine tr_goto 48 dX12_readAlp_82 (by decide) ?_
                        refine tr_iload_n dX12_readAlp_48 rfl ?_
                        refine q_iconst dX12_readAlp_49 (by decide) ?_
                        intro v4302 h4303
                        refine q_icmp_ge 85 dX12_readAlp_50 (by decide) (fun h4304 => ?_) (fun h4304 => ?_)
                        · skip
                          exfalso; omega
                        · skip
                          refine tr_iload_n dX12_readAlp_53 rfl ?_
                          refine q_if_le 63 dX12_readAlp_54 (by decide) (fun h4305 => ?_) (fun h4305 => ?_)
                          · skip
                            exfalso; omega
                          · skip
                            refine tr_aload_n dX12_readAlp_57 rfl ?_
                            refine q_bipush dX12_readAlp_58 (by decide +kernel) ?_
                            intro v4306 h4307
                            refine q_callVv hE (M' := mX12_needsSign) (as := [_]) dX12_readAlp_60 lk12_257 inX12_needsSign seX12_needsSign myX12_needsSign (by decide) ⟨by decide, by decide⟩ rfl (kR15 hS4291.1 ta0) (Nat.le_of_ble_eq_true rfl) rfl rfl (by decide) (by decide) (k_X12_needsSign hS4291.1 ta0) ?_
                            rintro cn' K' N' I4308 R4309 L4310 ⟨rfl, rfl, rfl, rfl, g4311, w4313, -⟩
                            have hS4314 := hS4291.tr g4311 (by decide +kernel) (by decide +kernel)
                            have c4315 : I4308 a1 0 = v29 := (g4311.cell ta1 (by decide +kernel)).trans c4294
                            have c4316 : I4308 a1 1 = v33 := (g4311.cell ta1 (by decide +kernel)).trans c4295
                            have hO4317 : FrO 14 a1 T I0 I4308 := hO4299.st g4311 (by decide +kernel)
                            have ov4318 := w4313.over (by rw [c4296]; omega)
                            obtain ⟨v4319, c4320⟩ : ∃ v, I4308 a0 9 = v := ⟨_, rfl⟩
                            have b4321 := iv15_9 hS4314.1 ta0 c4320
                            obtain ⟨v4322, c4323⟩ : ∃ v, I4308 a0 13 = v := ⟨_, rfl⟩
                            obtain ⟨v4324, c4325⟩ : ∃ v, I4308 a0 14 = v := ⟨_, rfl⟩
                            (try rw [c4320] at ov4318)
                            (try rw [c4323] at ov4318)
                            (try rw [c4325] at ov4318)
                            (try rw [c4296] at ov4318)
                            (try rw [c4297] at ov4318)
                            (try rw [c4298] at ov4318)
                            refine tr_aload_n dX12_readAlp_63 rfl ?_
                            refine tr_getR dX12_readAlp_64 fl12_188 (kR15 hS4314.1 ta0) d2 ?_
                            refine tr_getR dX12_readAlp_67 fl12_260 (kR14 hS4314.1 ta1) d67 ?_
                            refine tr_iload_n dX12_readAlp_70 rfl ?_
                            refine tr_aload_n dX12_readAlp_71 rfl ?_
                            refine q_iconst dX12_readAlp_72 (by decide) ?_
                            intro v4326 h4327
                            refine q_bipush dX12_readAlp_73 (by decide +kernel) ?_
                            intro v4328 h4329
                            refine q_callVi hE (M' := mX12_readWhole) (as := [_, _]) dX12_readAlp_75 lk12_161 inX12_readWhole seX12_readWhole myX12_readWhole (by decide) ⟨by decide, by decide⟩ rfl (kR15 hS4314.1 ta0) (Nat.le_of_ble_eq_true rfl) rfl rfl (by decide) (by decide) (k_X12_readWhole hS4314.1 ta0) ?_
                            rintro v4334 cn' K' N' I4330 R4331 L4332 ⟨rfl, rfl, rfl, rfl, g4333, p4335, w4336, -⟩
                            have hS4337 := hS4314.tr g4333 (by decide +kernel) (by decide +kernel)
                            have c4338 : I4330 a1 0 = v29 := (g4333.cell ta1 (by decide +kernel)).trans c4315
                            have c4339 : I4330 a1 1 = v33 := (g4333.cell ta1 (by decide +kernel)).trans c4316
                            have b4340 : 0 ≤ v4334.toInt ∧ v4334.toInt ≤ 99 := by omega
                            clear p4335
                            have hO4341 : FrO 14 a1 T I0 I4330 := hO4317.st g4333 (by decide +kernel)
                            have ov4342 := w4336.over (by rw [c4320]; omega)
                            obtain ⟨v4343, c4344⟩ : ∃ v, I4330 a0 9 = v := ⟨_, rfl⟩
                            have b4345 := iv15_9 hS4337.1 ta0 c4344
                            obtain ⟨v4346, c4347⟩ : ∃ v, I4330 a0 13 = v := ⟨_, rfl⟩
                            obtain ⟨v4348, c4349⟩ : ∃ v, I4330 a0 14 = v := ⟨_, rfl⟩
                            (try rw [c4344] at ov4342)
                            (try rw [c4347] at ov4342)
                            (try rw [c4349] at ov4342)
                            (try rw [c4320] at ov4342)
                            (try rw [c4323] at ov4342)
                            (try rw [c4325] at ov4342)
                            refine q_iast dX12_readAlp_78 (kR53 hS4337.1 ta66) (ti_in (nR53 hS4337.1 ta66) (by omega) (by omega)) hS4337 ta66 (iokF rfl) rfl (by rfl) ?_
                            intro I4350 hS4351 e4353 f4352
                            have c4354 : I4350 a1 0 = v29 := (f4352 _ _ (fun q => by have z := ta1; rw [q.1, ta66] at z; exact absurd z (by decide))).trans c4338
                            have c4355 : I4350 a1 1 = v33 := (f4352 _ _ (fun q => by have z := ta1; rw [q.1, ta66] at z; exact absurd z (by decide))).trans c4339
                            have c4356 : I4350 a0 9 = v4343 := (f4352 _ _ (fun q => by have z := ta0; rw [q.1, ta66] at z; exact absurd z (by decide))).trans c4344
                            have c4357 : I4350 a0 13 = v4346 := (f4352 _ _ (fun q => by have z := ta0; rw [q.1, ta66] at z; exact absurd z (by decide))).trans c4347
                            have c4358 : I4350 a0 14 = v4348 := (f4352 _ _ (fun q => by have z := ta0; rw [q.1, ta66] at z; exact absurd z (by decide))).trans c4349
                            have hO4359 : FrO 14 a1 T I0 I4350 := hO4341.put f4352 ta66 (Or.inl (by decide))
                            refine q_iincE dX12_readAlp_79 rfl (by decide) (by decide) (by intros; omega) ?_
                            intro v4360 h4361
                            refine tr_goto 48 dX12_readAlp_82 (by decide) ?_
                            refine tr_iload_n dX12_readAlp_48 rfl ?_
                            refine q_iconst dX12_readAlp_49 (by decide) ?_
                            intro v4362 h4363
                            refine q_icmp_ge 85 dX12_readAlp_50 (by decide) (fun h4364 => ?_) (fun h4364 => ?_)
                            · skip
                              refine tr_aload_n dX12_readAlp_85 rfl ?_
                              refine q_getI dX12_readAlp_86 fl12_99 (kR15 hS4351.1 ta0) c4356 ?_
                              refine q_iconst dX12_readAlp_89 (by decide) ?_
                              intro v4365 h4366
                              refine q_icmp_ne 94 dX12_readAlp_90 (by decide) (fun h4367 => ?_) (fun h4367 => ?_)
                              · skip
                                exfalso; omega
                              · skip
                                have eF := hF.eq
                                have eP := hP.eq
                                obtain ⟨v4368, c4369⟩ : ∃ v, I4350 a0 10 = v := ⟨_, rfl⟩
                                have b4370 := iv15_10 hS4351.1 ta0 c4369
                                obtain ⟨v4371, c4372⟩ : ∃ v, I4350 a0 11 = v := ⟨_, rfl⟩
                                obtain ⟨y4373, c4374⟩ : ∃ v, L4332 a0 15 = v := ⟨_, rfl⟩
                                obtain ⟨v4375, c4376⟩ : ∃ v, I4350 a0 12 = v := ⟨_, rfl⟩
                                obtain ⟨v4377, c4378⟩ : ∃ v, I4350 a0 8 = v := ⟨_, rfl⟩
                                have b4379 := iv15_8 hS4351.1 ta0 c4378
                                exact tr_vret hZ dX12_readAlp_93 rfl (by decide) (by decide) ⟨rfl, rfl, rfl, rfl, rfl, hS4351, (fun b hb => (Option.some.inj (d2.symm.trans hb)) ▸ (((((((((((((((((((FrM.rf (R := R0) (b := a1) (T := T)).st g74 (by decide +kernel)).st g126 (by decide +kernel)).st g196 (by decide +kernel)).st g4065 (by decide +kernel)).st g4093 (by decide +kernel)).pu f4112 (by decide) (by decide) d67).st g4131 (by decide +kernel)).st g4153 (by decide +kernel)).pu f4172 (by decide) (by decide) d67).st g4191 (by decide +kernel)).st g4213 (by decide +kernel)).pu f4232 (by decide) (by decide) d67).st g4251 (by decide +kernel)).st g4273 (by decide +kernel)).pu f4292 (by decide) (by decide) d67).st g4311 (by decide +kernel)).st g4333 (by decide +kernel)).pu f4352 (by decide) (by decide) d67)), (fun dr hd => (Option.some.inj (d2.symm.trans hd)) ▸ hO4359), (Or.inr (⟨(by (try rw [w109]); first | done | with_reducible assumption | omega), (by (try rw [w109]); (try rw [c4356]); first | done | with_reducible assumption | omega), (by (try rw [w109]); (try rw [c4357]); first | done | with_reducible assumption | omega), (by (try rw [w109]); (try rw [c4358]); first | done | with_reducible assumption | omega), trivial⟩)), trivial⟩
                            · skip
                              exfalso; omega
          · skip
            exfalso; omega
    · skip
      obtain ⟨v4380, c4381⟩ : ∃ v, I123 a0 9 = v := ⟨_, rfl⟩
      have b4382 := iv15_9 hS131.1 ta0 c4381
      rw [c4381] at p152
      obtain ⟨v4383, c4384⟩ : ∃ v, I123 a0 13 = v := ⟨_, rfl⟩
      rw [c4384] at p153
      obtain ⟨v4385, c4386⟩ : ∃ v, I123 a0 14 = v := ⟨_, rfl⟩
      rw [c4386] at p154
      replace hF := hF.pos (by omega)
      replace hP := hP.pos (by omega)
      refine tr_istore_n dX12_readAlp_30 (by decide) (by decide) ?_
      refine tr_aload_n dX12_readAlp_31 rfl ?_
      refine tr_ldcS dX12_readAlp_32 ld12_253 ?_
      refine q_iconst dX12_readAlp_34 (by decide) ?_
      intro v4387 h4388
      refine q_iconst dX12_readAlp_35 (by decide) ?_
      intro v4389 h4390
      refine q_callVi hE (M' := mX12_readPart) (as := [_, _, _]) dX12_readAlp_36 lk12_249 inX12_readPart seX12_readPart myX12_readPart (by decide) ⟨by decide, by decide⟩ rfl (kR15 hS131.1 ta0) (Nat.le_of_ble_eq_true rfl) rfl rfl (by decide) (by decide) (k_X12_readPart hS131.1 ta0 (by decide)) ?_
      rintro v4395 cn' K' N' I4391 R4392 L4393 ⟨rfl, rfl, rfl, rfl, g4394, p4396, w4397, -⟩
      have hS4398 := hS131.tr g4394 (by decide +kernel) (by decide +kernel)
      have c4399 : I4391 a1 0 = v29 := (g4394.cell ta1 (by decide +kernel)).trans c132
      have c4400 : I4391 a1 1 = v33 := (g4394.cell ta1 (by decide +kernel)).trans c133
      have b4401 : 1 ≤ v4395.toInt ∧ v4395.toInt ≤ 4 := by omega
      clear p4396
      have hO4402 : FrO 14 a1 T I0 I4391 := hO134.st g4394 (by decide +kernel)
      have ov4403 := w4397.over (by rw [c4381]; omega)
      obtain ⟨v4404, c4405⟩ : ∃ v, I4391 a0 9 = v := ⟨_, rfl⟩
      have b4406 := iv15_9 hS4398.1 ta0 c4405
      obtain ⟨v4407, c4408⟩ : ∃ v, I4391 a0 13 = v := ⟨_, rfl⟩
      obtain ⟨v4409, c4410⟩ : ∃ v, I4391 a0 14 = v := ⟨_, rfl⟩
      (try rw [c4405] at ov4403)
      (try rw [c4408] at ov4403)
      (try rw [c4410] at ov4403)
      (try rw [c4381] at ov4403)
      (try rw [c4384] at ov4403)
      (try rw [c4386] at ov4403)
      refine tr_istore_n dX12_readAlp_39 (by decide) (by decide) ?_
      refine tr_aload_n dX12_readAlp_40 rfl ?_
      refine tr_ldcS dX12_readAlp_41 ld12_255 ?_
      refine q_callVv hE (M' := mX12_needs) (as := [_]) dX12_readAlp_43 lk12_157 inX12_needs seX12_needs myX12_needs (by decide) ⟨by decide, by decide⟩ rfl (kR15 hS4398.1 ta0) (Nat.le_of_ble_eq_true rfl) rfl rfl (by decide) (by decide) (k_X12_needs hS4398.1 ta0 (by decide)) ?_
      rintro cn' K' N' I4411 R4412 L4413 ⟨rfl, rfl, rfl, rfl, g4414, w4416, -⟩
      have hS4417 := hS4398.tr g4414 (by decide +kernel) (by decide +kernel)
      have c4418 : I4411 a1 0 = v29 := (g4414.cell ta1 (by decide +kernel)).trans c4399
      have c4419 : I4411 a1 1 = v33 := (g4414.cell ta1 (by decide +kernel)).trans c4400
      have hO4420 : FrO 14 a1 T I0 I4411 := hO4402.st g4414 (by decide +kernel)
      have ov4421 := w4416.over (by rw [c4405]; omega)
      obtain ⟨v4422, c4423⟩ : ∃ v, I4411 a0 9 = v := ⟨_, rfl⟩
      have b4424 := iv15_9 hS4417.1 ta0 c4423
      obtain ⟨v4425, c4426⟩ : ∃ v, I4411 a0 13 = v := ⟨_, rfl⟩
      obtain ⟨v4427, c4428⟩ : ∃ v, I4411 a0 14 = v := ⟨_, rfl⟩
      (try rw [c4423] at ov4421)
      (try rw [c4426] at ov4421)
      (try rw [c4428] at ov4421)
      (try rw [c4405] at ov4421)
      (try rw [c4408] at ov4421)
      (try rw [c4410] at ov4421)
      refine q_iconst dX12_readAlp_46 (by decide) ?_
      intro v4429 h4430
      refine tr_istore_n dX12_readAlp_47 (by decide) (by decide) ?_
      refine tr_iload_n dX12_readAlp_48 rfl ?_
      refine q_iconst dX12_readAlp_49 (by decide) ?_
      intro v4431 h4432
      refine q_icmp_ge 85 dX12_readAlp_50 (by decide) (fun h4433 => ?_) (fun h4433 => ?_)
      · skip
        exfalso; omega
      · skip
        refine tr_iload_n dX12_readAlp_53 rfl ?_
        refine q_if_le 63 dX12_readAlp_54 (by decide) (fun h4434 => ?_) (fun h4434 => ?_)
        · skip
          refine tr_aload_n dX12_readAlp_63 rfl ?_
          refine tr_getR dX12_readAlp_64 fl12_188 (kR15 hS4417.1 ta0) d2 ?_
          refine tr_getR dX12_readAlp_67 fl12_260 (kR14 hS4417.1 ta1) d67 ?_
          refine tr_iload_n dX12_readAlp_70 rfl ?_
          refine tr_aload_n dX12_readAlp_71 rfl ?_
          refine q_iconst dX12_readAlp_72 (by decide) ?_
          intro v4435 h4436
          refine q_bipush dX12_readAlp_73 (by decide +kernel) ?_
          intro v4437 h4438
          refine q_callVi hE (M' := mX12_readWhole) (as := [_, _]) dX12_readAlp_75 lk12_161 inX12_readWhole seX12_readWhole myX12_readWhole (by decide) ⟨by decide, by decide⟩ rfl (kR15 hS4417.1 ta0) (Nat.le_of_ble_eq_true rfl) rfl rfl (by decide) (by decide) (k_X12_readWhole hS4417.1 ta0) ?_
          rintro v4443 cn' K' N' I4439 R4440 L4441 ⟨rfl, rfl, rfl, rfl, g4442, p4444, w4445, -⟩
          have hS4446 := hS4417.tr g4442 (by decide +kernel) (by decide +kernel)
          have c4447 : I4439 a1 0 = v29 := (g4442.cell ta1 (by decide +kernel)).trans c4418
          have c4448 : I4439 a1 1 = v33 := (g4442.cell ta1 (by decide +kernel)).trans c4419
          have b4449 : 0 ≤ v4443.toInt ∧ v4443.toInt ≤ 99 := by omega
          clear p4444
          have hO4450 : FrO 14 a1 T I0 I4439 := hO4420.st g4442 (by decide +kernel)
          have ov4451 := w4445.over (by rw [c4423]; omega)
          obtain ⟨v4452, c4453⟩ : ∃ v, I4439 a0 9 = v := ⟨_, rfl⟩
          have b4454 := iv15_9 hS4446.1 ta0 c4453
          obtain ⟨v4455, c4456⟩ : ∃ v, I4439 a0 13 = v := ⟨_, rfl⟩
          obtain ⟨v4457, c4458⟩ : ∃ v, I4439 a0 14 = v := ⟨_, rfl⟩
          (try rw [c4453] at ov4451)
          (try rw [c4456] at ov4451)
          (try rw [c4458] at ov4451)
          (try rw [c4423] at ov4451)
          (try rw [c4426] at ov4451)
          (try rw [c4428] at ov4451)
          refine q_iast dX12_readAlp_78 (kR53 hS4446.1 ta66) (ti_in (nR53 hS4446.1 ta66) (by omega) (by omega)) hS4446 ta66 (iokF rfl) rfl (by rfl) ?_
          intro I4459 hS4460 e4462 f4461
          have c4463 : I4459 a1 0 = v29 := (f4461 _ _ (fun q => by have z := ta1; rw [q.1, ta66] at z; exact absurd z (by decide))).trans c4447
          have c4464 : I4459 a1 1 = v33 := (f4461 _ _ (fun q => by have z := ta1; rw [q.1, ta66] at z; exact absurd z (by decide))).trans c4448
          have c4465 : I4459 a0 9 = v4452 := (f4461 _ _ (fun q => by have z := ta0; rw [q.1, ta66] at z; exact absurd z (by decide))).trans c4453
          have c4466 : I4459 a0 13 = v4455 := (f4461 _ _ (fun q => by have z := ta0; rw [q.1, ta66] at z; exact absurd z (by decide))).trans c4456
          have c4467 : I4459 a0 14 = v4457 := (f4461 _ _ (fun q => by have z := ta0; rw [q.1, ta66] at z; exact absurd z (by decide))).trans c4458
          have hO4468 : FrO 14 a1 T I0 I4459 := hO4450.put f4461 ta66 (Or.inl (by decide))
          refine q_iincE dX12_readAlp_79 rfl (by decide) (by decide) (by intros; omega) ?_
          intro v4469 h4470
          refine tr_goto 48 dX12_readAlp_82 (by decide) ?_
          refine tr_iload_n dX12_readAlp_48 rfl ?_
          refine q_iconst dX12_readAlp_49 (by decide) ?_
          intro v4471 h4472
          refine q_icmp_ge 85 dX12_readAlp_50 (by decide) (fun h4473 => ?_) (fun h4473 => ?_)
          · skip
            exfalso; omega
          · skip
            refine tr_iload_n dX12_readAlp_53 rfl ?_
            refine q_if_le 63 dX12_readAlp_54 (by decide) (fun h4474 => ?_) (fun h4474 => ?_)
            · skip
              exfalso; omega
            · skip
              refine tr_aload_n dX12_readAlp_57 rfl ?_
              refine q_bipush dX12_readAlp_58 (by decide +kernel) ?_
              intro v4475 h4476
              refine q_callVv hE (M' := mX12_needsSign) (as := [_]) dX12_readAlp_60 lk12_257 inX12_needsSign seX12_needsSign myX12_needsSign (by decide) ⟨by decide, by decide⟩ rfl (kR15 hS4460.1 ta0) (Nat.le_of_ble_eq_true rfl) rfl rfl (by decide) (by decide) (k_X12_needsSign hS4460.1 ta0) ?_
              rintro cn' K' N' I4477 R4478 L4479 ⟨rfl, rfl, rfl, rfl, g4480, w4482, -⟩
              have hS4483 := hS4460.tr g4480 (by decide +kernel) (by decide +kernel)
              have c4484 : I4477 a1 0 = v29 := (g4480.cell ta1 (by decide +kernel)).trans c4463
              have c4485 : I4477 a1 1 = v33 := (g4480.cell ta1 (by decide +kernel)).trans c4464
              have hO4486 : FrO 14 a1 T I0 I4477 := hO4468.st g4480 (by decide +kernel)
              have ov4487 := w4482.over (by rw [c4465]; omega)
              obtain ⟨v4488, c4489⟩ : ∃ v, I4477 a0 9 = v := ⟨_, rfl⟩
              have b4490 := iv15_9 hS4483.1 ta0 c4489
              obtain ⟨v4491, c4492⟩ : ∃ v, I4477 a0 13 = v := ⟨_, rfl⟩
              obtain ⟨v4493, c4494⟩ : ∃ v, I4477 a0 14 = v := ⟨_, rfl⟩
              (try rw [c4489] at ov4487)
              (try rw [c4492] at ov4487)
              (try rw [c4494] at ov4487)
              (try rw [c4465] at ov4487)
              (try rw [c4466] at ov4487)
              (try rw [c4467] at ov4487)
              refine tr_aload_n dX12_readAlp_63 rfl ?_
              refine tr_getR dX12_readAlp_64 fl12_188 (kR15 hS4483.1 ta0) d2 ?_
              refine tr_getR dX12_readAlp_67 fl12_260 (kR14 hS4483.1 ta1) d67 ?_
              refine tr_iload_n dX12_readAlp_70 rfl ?_
              refine tr_aload_n dX12_readAlp_71 rfl ?_
              refine q_iconst dX12_readAlp_72 (by decide) ?_
              intro v4495 h4496
              refine q_bipush dX12_readAlp_73 (by decide +kernel) ?_
              intro v4497 h4498
              refine q_callVi hE (M' := mX12_readWhole) (as := [_, _]) dX12_readAlp_75 lk12_161 inX12_readWhole seX12_readWhole myX12_readWhole (by decide) ⟨by decide, by decide⟩ rfl (kR15 hS4483.1 ta0) (Nat.le_of_ble_eq_true rfl) rfl rfl (by decide) (by decide) (k_X12_readWhole hS4483.1 ta0) ?_
              rintro v4503 cn' K' N' I4499 R4500 L4501 ⟨rfl, rfl, rfl, rfl, g4502, p4504, w4505, -⟩
              have hS4506 := hS4483.tr g4502 (by decide +kernel) (by decide +kernel)
              have c4507 : I4499 a1 0 = v29 := (g4502.cell ta1 (by decide +kernel)).trans c4484
              have c4508 : I4499 a1 1 = v33 := (g4502.cell ta1 (by decide +kernel)).trans c4485
              have b4509 : 0 ≤ v4503.toInt ∧ v4503.toInt ≤ 99 := by omega
              clear p4504
              have hO4510 : FrO 14 a1 T I0 I4499 := hO4486.st g4502 (by decide +kernel)
              have ov4511 := w4505.over (by rw [c4489]; omega)
              obtain ⟨v4512, c4513⟩ : ∃ v, I4499 a0 9 = v := ⟨_, rfl⟩
              have b4514 := iv15_9 hS4506.1 ta0 c4513
              obtain ⟨v4515, c4516⟩ : ∃ v, I4499 a0 13 = v := ⟨_, rfl⟩
              obtain ⟨v4517, c4518⟩ : ∃ v, I4499 a0 14 = v := ⟨_, rfl⟩
              (try rw [c4513] at ov4511)
              (try rw [c4516] at ov4511)
              (try rw [c4518] at ov4511)
              (try rw [c4489] at ov4511)
              (try rw [c4492] at ov4511)
              (try rw [c4494] at ov4511)
              refine q_iast dX12_readAlp_78 (kR53 hS4506.1 ta66) (ti_in (nR53 hS4506.1 ta66) (by omega) (by omega)) hS4506 ta66 (iokF rfl) rfl (by rfl) ?_
              intro I4519 hS4520 e4522 f4521
              have c4523 : I4519 a1 0 = v29 := (f4521 _ _ (fun q => by have z := ta1; rw [q.1, ta66] at z; exact absurd z (by decide))).trans c4507
              have c4524 : I4519 a1 1 = v33 := (f4521 _ _ (fun q => by have z := ta1; rw [q.1, ta66] at z; exact absurd z (by decide))).trans c4508
              have c4525 : I4519 a0 9 = v4512 := (f4521 _ _ (fun q => by have z := ta0; rw [q.1, ta66] at z; exact absurd z (by decide))).trans c4513
              have c4526 : I4519 a0 13 = v4515 := (f4521 _ _ (fun q => by have z := ta0; rw [q.1, ta66] at z; exact absurd z (by decide))).trans c4516
              have c4527 : I4519 a0 14 = v4517 := (f4521 _ _ (fun q => by have z := ta0; rw [q.1, ta66] at z; exact absurd z (by decide))).trans c4518
              have hO4528 : FrO 14 a1 T I0 I4519 := hO4510.put f4521 ta66 (Or.inl (by decide))
              refine q_iincE dX12_readAlp_79 rfl (by decide) (by decide) (by intros; omega) ?_
              intro v4529 h4530
              refine tr_goto 48 dX12_readAlp_82 (by decide) ?_
              refine tr_iload_n dX12_readAlp_48 rfl ?_
              refine q_iconst dX12_readAlp_49 (by decide) ?_
              intro v4531 h4532
              refine q_icmp_ge 85 dX12_readAlp_50 (by decide) (fun h4533 => ?_) (fun h4533 => ?_)
              · skip
                exfalso; omega
              · skip
                refine tr_iload_n dX12_readAlp_53 rfl ?_
                refine q_if_le 63 dX12_readAlp_54 (by decide) (fun h4534 => ?_) (fun h4534 => ?_)
                · skip
                  exfalso; omega
                · skip
                  refine tr_aload_n dX12_readAlp_57 rfl ?_
                  refine q_bipush dX12_readAlp_58 (by decide +kernel) ?_
                  intro v4535 h4536
                  refine q_callVv hE (M' := mX12_needsSign) (as := [_]) dX12_readAlp_60 lk12_257 inX12_needsSign seX12_needsSign myX12_needsSign (by decide) ⟨by decide, by decide⟩ rfl (kR15 hS4520.1 ta0) (Nat.le_of_ble_eq_true rfl) rfl rfl (by decide) (by decide) (k_X12_needsSign hS4520.1 ta0) ?_
                  rintro cn' K' N' I4537 R4538 L4539 ⟨rfl, rfl, rfl, rfl, g4540, w4542, -⟩
                  have hS4543 := hS4520.tr g4540 (by decide +kernel) (by decide +kernel)
                  have c4544 : I4537 a1 0 = v29 := (g4540.cell ta1 (by decide +kernel)).trans c4523
                  have c4545 : I4537 a1 1 = v33 := (g4540.cell ta1 (by decide +kernel)).trans c4524
                  have hO4546 : FrO 14 a1 T I0 I4537 := hO4528.st g4540 (by decide +kernel)
                  have ov4547 := w4542.over (by rw [c4525]; omega)
                  obtain ⟨v4548, c4549⟩ : ∃ v, I4537 a0 9 = v := ⟨_, rfl⟩
                  have b4550 := iv15_9 hS4543.1 ta0 c4549
                  obtain ⟨v4551, c4552⟩ : ∃ v, I4537 a0 13 = v := ⟨_, rfl⟩
                  obtain ⟨v4553, c4554⟩ : ∃ v, I4537 a0 14 = v := ⟨_, rfl⟩
                  (try rw [c4549] at ov4547)
                  (try rw [c4552] at ov4547)
                  (try rw [c4554] at ov4547)
                  (try rw [c4525] at ov4547)
                  (try rw [c4526] at ov4547)
                  (try rw [c4527] at ov4547)
                  refine tr_aload_n dX12_readAlp_63 rfl ?_
                  refine tr_getR dX12_readAlp_64 fl12_188 (kR15 hS4543.1 ta0) d2 ?_
                  refine tr_getR dX12_readAlp_67 fl12_260 (kR14 hS4543.1 ta1) d67 ?_
                  refine tr_iload_n dX12_readAlp_70 rfl ?_
                  refine tr_aload_n dX12_readAlp_71 rfl ?_
                  refine q_iconst dX12_readAlp_72 (by decide) ?_
                  intro v4555 h4556
                  refine q_bipush dX12_readAlp_73 (by decide +kernel) ?_
                  intro v4557 h4558
                  refine q_callVi hE (M' := mX12_readWhole) (as := [_, _]) dX12_readAlp_75 lk12_161 inX12_readWhole seX12_readWhole myX12_readWhole (by decide) ⟨by decide, by decide⟩ rfl (kR15 hS4543.1 ta0) (Nat.le_of_ble_eq_true rfl) rfl rfl (by decide) (by decide) (k_X12_readWhole hS4543.1 ta0) ?_
                  rintro v4563 cn' K' N' I4559 R4560 L4561 ⟨rfl, rfl, rfl, rfl, g4562, p4564, w4565, -⟩
                  have hS4566 := hS4543.tr g4562 (by decide +kernel) (by decide +kernel)
                  have c4567 : I4559 a1 0 = v29 := (g4562.cell ta1 (by decide +kernel)).trans c4544
                  have c4568 : I4559 a1 1 = v33 := (g4562.cell ta1 (by decide +kernel)).trans c4545
                  have b4569 : 0 ≤ v4563.toInt ∧ v4563.toInt ≤ 99 := by omega
                  clear p4564
                  have hO4570 : FrO 14 a1 T I0 I4559 := hO4546.st g4562 (by decide +kernel)
                  have ov4571 := w4565.over (by rw [c4549]; omega)
                  obtain ⟨v4572, c4573⟩ : ∃ v, I4559 a0 9 = v := ⟨_, rfl⟩
                  have b4574 := iv15_9 hS4566.1 ta0 c4573
                  obtain ⟨v4575, c4576⟩ : ∃ v, I4559 a0 13 = v := ⟨_, rfl⟩
                  obtain ⟨v4577, c4578⟩ : ∃ v, I4559 a0 14 = v := ⟨_, rfl⟩
                  (try rw [c4573] at ov4571)
                  (try rw [c4576] at ov4571)
                  (try rw [c4578] at ov4571)
                  (try rw [c4549] at ov4571)
                  (try rw [c4552] at ov4571)
                  (try rw [c4554] at ov4571)
                  refine q_iast dX12_readAlp_78 (kR53 hS4566.1 ta66) (ti_in (nR53 hS4566.1 ta66) (by omega) (by omega)) hS4566 ta66 (iokF rfl) rfl (by rfl) ?_
                  intro I4579 hS4580 e4582 f4581
                  have c4583 : I4579 a1 0 = v29 := (f4581 _ _ (fun q => by have z := ta1; rw [q.1, ta66] at z; exact absurd z (by decide))).trans c4567
                  have c4584 : I4579 a1 1 = v33 := (f4581 _ _ (fun q => by have z := ta1; rw [q.1, ta66] at z; exact absurd z (by decide))).trans c4568
                  have c4585 : I4579 a0 9 = v4572 := (f4581 _ _ (fun q => by have z := ta0; rw [q.1, ta66] at z; exact absurd z (by decide))).trans c4573
                  have c4586 : I4579 a0 13 = v4575 := (f4581 _ _ (fun q => by have z := ta0; rw [q.1, ta66] at z; exact absurd z (by decide))).trans c4576
                  have c4587 : I4579 a0 14 = v4577 := (f4581 _ _ (fun q => by have z := ta0; rw [q.1, ta66] at z; exact absurd z (by decide))).trans c4578
                  have hO4588 : FrO 14 a1 T I0 I4579 := hO4570.put f4581 ta66 (Or.inl (by decide))
                  refine q_iincE dX12_readAlp_79 rfl (by decide) (by decide) (by intros; omega) ?_
                  intro v4589 h4590
                  refine tr_goto 48 dX12_readAlp_82 (by decide) ?_
                  refine tr_iload_n dX12_readAlp_48 rfl ?_
                  refine q_iconst dX12_readAlp_49 (by decide) ?_
                  intro v4591 h4592
                  refine q_icmp_ge 85 dX12_readAlp_50 (by decide) (fun h4593 => ?_) (fun h4593 => ?_)
                  · skip
                    exfalso; omega
                  · skip
                    refine tr_iload_n dX12_readAlp_53 rfl ?_
                    refine q_if_le 63 dX12_readAlp_54 (by decide) (fun h4594 => ?_) (fun h4594 => ?_)
                    · skip
                      exfalso; omega
                    · skip
                      refine tr_aload_n dX12_readAlp_57 rfl ?_
                      refine q_bipush dX12_readAlp_58 (by decide +kernel) ?_
                      intro v4595 h4596
                      refine q_callVv hE (M' := mX12_needsSign) (as := [_]) dX12_readAlp_60 lk12_257 inX12_needsSign seX12_needsSign myX12_needsSign (by decide) ⟨by decide, by decide⟩ rfl (kR15 hS4580.1 ta0) (Nat.le_of_ble_eq_true rfl) rfl rfl (by decide) (by decide) (k_X12_needsSign hS4580.1 ta0) ?_
                      rintro cn' K' N' I4597 R4598 L4599 ⟨rfl, rfl, rfl, rfl, g4600, w4602, -⟩
                      have hS4603 := hS4580.tr g4600 (by decide +kernel) (by decide +kernel)
                      have c4604 : I4597 a1 0 = v29 := (g4600.cell ta1 (by decide +kernel)).trans c4583
                      have c4605 : I4597 a1 1 = v33 := (g4600.cell ta1 (by decide +kernel)).trans c4584
                      have hO4606 : FrO 14 a1 T I0 I4597 := hO4588.st g4600 (by decide +kernel)
                      have ov4607 := w4602.over (by rw [c4585]; omega)
                      obtain ⟨v4608, c4609⟩ : ∃ v, I4597 a0 9 = v := ⟨_, rfl⟩
                      have b4610 := iv15_9 hS4603.1 ta0 c4609
                      obtain ⟨v4611, c4612⟩ : ∃ v, I4597 a0 13 = v := ⟨_, rfl⟩
                      obtain ⟨v4613, c4614⟩ : ∃ v, I4597 a0 14 = v := ⟨_, rfl⟩
                      (try rw [c4609] at ov4607)
                      (try rw [c4612] at ov4607)
                      (try rw [c4614] at ov4607)
                      (try rw [c4585] at ov4607)
                      (try rw [c4586] at ov4607)
                      (try rw [c4587] at ov4607)
                      refine tr_aload_n dX12_readAlp_63 rfl ?_
                      refine tr_getR dX12_readAlp_64 fl12_188 (kR15 hS4603.1 ta0) d2 ?_
                      refine tr_getR dX12_readAlp_67 fl12_260 (kR14 hS4603.1 ta1) d67 ?_
                      refine tr_iload_n dX12_readAlp_70 rfl ?_
                      refine tr_aload_n dX12_readAlp_71 rfl ?_
                      refine q_iconst dX12_readAlp_72 (by decide) ?_
                      intro v4615 h4616
                      refine q_bipush dX12_readAlp_73 (by decide +kernel) ?_
                      intro v4617 h4618
                      refine q_callVi hE (M' := mX12_readWhole) (as := [_, _]) dX12_readAlp_75 lk12_161 inX12_readWhole seX12_readWhole myX12_readWhole (by decide) ⟨by decide, by decide⟩ rfl (kR15 hS4603.1 ta0) (Nat.le_of_ble_eq_true rfl) rfl rfl (by decide) (by decide) (k_X12_readWhole hS4603.1 ta0) ?_
                      rintro v4623 cn' K' N' I4619 R4620 L4621 ⟨rfl, rfl, rfl, rfl, g4622, p4624, w4625, -⟩
                      have hS4626 := hS4603.tr g4622 (by decide +kernel) (by decide +kernel)
                      have c4627 : I4619 a1 0 = v29 := (g4622.cell ta1 (by decide +kernel)).trans c4604
                      have c4628 : I4619 a1 1 = v33 := (g4622.cell ta1 (by decide +kernel)).trans c4605
                      have b4629 : 0 ≤ v4623.toInt ∧ v4623.toInt ≤ 99 := by omega
                      clear p4624
                      have hO4630 : FrO 14 a1 T I0 I4619 := hO4606.st g4622 (by decide +kernel)
                      have ov4631 := w4625.over (by rw [c4609]; omega)
                      obtain ⟨v4632, c4633⟩ : ∃ v, I4619 a0 9 = v := ⟨_, rfl⟩
                      have b4634 := iv15_9 hS4626.1 ta0 c4633
                      obtain ⟨v4635, c4636⟩ : ∃ v, I4619 a0 13 = v := ⟨_, rfl⟩
                      obtain ⟨v4637, c4638⟩ : ∃ v, I4619 a0 14 = v := ⟨_, rfl⟩
                      (try rw [c4633] at ov4631)
                      (try rw [c4636] at ov4631)
                      (try rw [c4638] at ov4631)
                      (try rw [c4609] at ov4631)
                      (try rw [c4612] at ov4631)
                      (try rw [c4614] at ov4631)
                      refine q_iast dX12_readAlp_78 (kR53 hS4626.1 ta66) (ti_in (nR53 hS4626.1 ta66) (by omega) (by omega)) hS4626 ta66 (iokF rfl) rfl (by rfl) ?_
                      intro I4639 hS4640 e4642 f4641
                      have c4643 : I4639 a1 0 = v29 := (f4641 _ _ (fun q => by have z := ta1; rw [q.1, ta66] at z; exact absurd z (by decide))).trans c4627
                      have c4644 : I4639 a1 1 = v33 := (f4641 _ _ (fun q => by have z := ta1; rw [q.1, ta66] at z; exact absurd z (by decide))).trans c4628
                      have c4645 : I4639 a0 9 = v4632 := (f4641 _ _ (fun q => by have z := ta0; rw [q.1, ta66] at z; exact absurd z (by decide))).trans c4633
                      have c4646 : I4639 a0 13 = v4635 := (f4641 _ _ (fun q => by have z := ta0; rw [q.1, ta66] at z; exact absurd z (by decide))).trans c4636
                      have c4647 : I4639 a0 14 = v4637 := (f4641 _ _ (fun q => by have z := ta0; rw [q.1, ta66] at z; exact absurd z (by decide))).trans c4638
                      have hO4648 : FrO 14 a1 T I0 I4639 := hO4630.put f4641 ta66 (Or.inl (by decide))
                      refine q_iincE dX12_readAlp_79 rfl (by decide) (by decide) (by intros; omega) ?_
                      intro v4649 h4650
                      refine tr_goto 48 dX12_readAlp_82 (by decide) ?_
                      refine tr_iload_n dX12_readAlp_48 rfl ?_
                      refine q_iconst dX12_readAlp_49 (by decide) ?_
                      intro v4651 h4652
                      refine q_icmp_ge 85 dX12_readAlp_50 (by decide) (fun h4653 => ?_) (fun h4653 => ?_)
                      · skip
                        exfalso; omega
                      · skip
                        refine tr_iload_n dX12_readAlp_53 rfl ?_
                        refine q_if_le 63 dX12_readAlp_54 (by decide) (fun h4654 => ?_) (fun h4654 => ?_)
                        · skip
                          exfalso; omega
                        · skip
                          refine tr_aload_n dX12_readAlp_57 rfl ?_
                          refine q_bipush dX12_readAlp_58 (by decide +kernel) ?_
                          intro v4655 h4656
                          refine q_callVv hE (M' := mX12_needsSign) (as := [_]) dX12_readAlp_60 lk12_257 inX12_needsSign seX12_needsSign myX12_needsSign (by decide) ⟨by decide, by decide⟩ rfl (kR15 hS4640.1 ta0) (Nat.le_of_ble_eq_true rfl) rfl rfl (by decide) (by decide) (k_X12_needsSign hS4640.1 ta0) ?_
                          rintro cn' K' N' I4657 R4658 L4659 ⟨rfl, rfl, rfl, rfl, g4660, w4662, -⟩
                          have hS4663 := hS4640.tr g4660 (by decide +kernel) (by decide +kernel)
                          have c4664 : I4657 a1 0 = v29 := (g4660.cell ta1 (by decide +kernel)).trans c4643
                          have c4665 : I4657 a1 1 = v33 := (g4660.cell ta1 (by decide +kernel)).trans c4644
                          have hO4666 : FrO 14 a1 T I0 I4657 := hO4648.st g4660 (by decide +kernel)
                          have ov4667 := w4662.over (by rw [c4645]; omega)
                          obtain ⟨v4668, c4669⟩ : ∃ v, I4657 a0 9 = v := ⟨_, rfl⟩
                          have b4670 := iv15_9 hS4663.1 ta0 c4669
                          obtain ⟨v4671, c4672⟩ : ∃ v, I4657 a0 13 = v := ⟨_, rfl⟩
                          obtain ⟨v4673, c4674⟩ : ∃ v, I4657 a0 14 = v := ⟨_, rfl⟩
                          (try rw [c4669] at ov4667)
                          (try rw [c4672] at ov4667)
                          (try rw [c4674] at ov4667)
                          (try rw [c4645] at ov4667)
                          (try rw [c4646] at ov4667)
                          (try rw [c4647] at ov4667)
                          refine tr_aload_n dX12_readAlp_63 rfl ?_
                          refine tr_getR dX12_readAlp_64 fl12_188 (kR15 hS4663.1 ta0) d2 ?_
                          refine tr_getR dX12_readAlp_67 fl12_260 (kR14 hS4663.1 ta1) d67 ?_
                          refine tr_iload_n dX12_readAlp_70 rfl ?_
                          refine tr_aload_n dX12_readAlp_71 rfl ?_
                          refine q_iconst dX12_readAlp_72 (by decide) ?_
                          intro v4675 h4676
                          refine q_bipush dX12_readAlp_73 (by decide +kernel) ?_
                          intro v4677 h4678
                          refine q_callVi hE (M' := mX12_readWhole) (as := [_, _]) dX12_readAlp_75 lk12_161 inX12_readWhole seX12_readWhole myX12_readWhole (by decide) ⟨by decide, by decide⟩ rfl (kR15 hS4663.1 ta0) (Nat.le_of_ble_eq_true rfl) rfl rfl (by decide) (by decide) (k_X12_readWhole hS4663.1 ta0) ?_
                          rintro v4683 cn' K' N' I4679 R4680 L4681 ⟨rfl, rfl, rfl, rfl, g4682, p4684, w4685, -⟩
                          have hS4686 := hS4663.tr g4682 (by decide +kernel) (by decide +kernel)
                          have c4687 : I4679 a1 0 = v29 := (g4682.cell ta1 (by decide +kernel)).trans c4664
                          have c4688 : I4679 a1 1 = v33 := (g4682.cell ta1 (by decide +kernel)).trans c4665
                          have b4689 : 0 ≤ v4683.toInt ∧ v4683.toInt ≤ 99 := by omega
                          clear p4684
                          have hO4690 : FrO 14 a1 T I0 I4679 := hO4666.st g4682 (by decide +kernel)
                          have ov4691 := w4685.over (by rw [c4669]; omega)
                          obtain ⟨v4692, c4693⟩ : ∃ v, I4679 a0 9 = v := ⟨_, rfl⟩
                          have b4694 := iv15_9 hS4686.1 ta0 c4693
                          obtain ⟨v4695, c4696⟩ : ∃ v, I4679 a0 13 = v := ⟨_, rfl⟩
                          obtain ⟨v4697, c4698⟩ : ∃ v, I4679 a0 14 = v := ⟨_, rfl⟩
                          (try rw [c4693] at ov4691)
                          (try rw [c4696] at ov4691)
                          (try rw [c4698] at ov4691)
                          (try rw [c4669] at ov4691)
                          (try rw [c4672] at ov4691)
                          (try rw [c4674] at ov4691)
                          refine q_iast dX12_readAlp_78 (kR53 hS4686.1 ta66) (ti_in (nR53 hS4686.1 ta66) (by omega) (by omega)) hS4686 ta66 (iokF rfl) rfl (by rfl) ?_
                          intro I4699 hS4700 e4702 f4701
                          have c4703 : I4699 a1 0 = v29 := (f4701 _ _ (fun q => by have z := ta1; rw [q.1, ta66] at z; exact absurd z (by decide))).trans c4687
                          have c4704 : I4699 a1 1 = v33 := (f4701 _ _ (fun q => by have z := ta1; rw [q.1, ta66] at z; exact absurd z (by decide))).trans c4688
                          have c4705 : I4699 a0 9 = v4692 := (f4701 _ _ (fun q => by have z := ta0; rw [q.1, ta66] at z; exact absurd z (by decide))).trans c4693
                          have c4706 : I4699 a0 13 = v4695 := (f4701 _ _ (fun q => by have z := ta0; rw [q.1, ta66] at z; exact absurd z (by decide))).trans c4696
                          have c4707 : I4699 a0 14 = v4697 := (f4701 _ _ (fun q => by have z := ta0; rw [q.1, ta66] at z; exact absurd z (by decide))).trans c4698
                          have hO4708 : FrO 14 a1 T I0 I4699 := hO4690.put f4701 ta66 (Or.inl (by decide))
                          refine q_iincE dX12_readAlp_79 rfl (by decide) (by decide) (by intros; omega) ?_
                          intro v4709 h4710
                          refine tr_goto 48 dX12_readAlp_82 (by decide) ?_
                          refine tr_iload_n dX12_readAlp_48 rfl ?_
                          refine q_iconst dX12_readAlp_49 (by decide) ?_
                          intro v4711 h4712
                          refine q_icmp_ge 85 dX12_readAlp_50 (by decide) (fun h4713 => ?_) (fun h4713 => ?_)
                          · skip
                            refine tr_aload_n dX12_readAlp_85 rfl ?_
                            refine q_getI dX12_readAlp_86 fl12_99 (kR15 hS4700.1 ta0) c4705 ?_
                            refine q_iconst dX12_readAlp_89 (by decide) ?_
                            intro v4714 h4715
                            refine q_icmp_ne 94 dX12_readAlp_90 (by decide) (fun h4716 => ?_) (fun h4716 => ?_)
                            · skip
                              exfalso; omega
                            · skip
                              have eF := hF.eq
                              have eP := hP.eq
                              obtain ⟨v4717, c4718⟩ : ∃ v, I4699 a0 10 = v := ⟨_, rfl⟩
                              have b4719 := iv15_10 hS4700.1 ta0 c4718
                              obtain ⟨v4720, c4721⟩ : ∃ v, I4699 a0 11 = v := ⟨_, rfl⟩
                              obtain ⟨y4722, c4723⟩ : ∃ v, L4681 a0 15 = v := ⟨_, rfl⟩
                              obtain ⟨v4724, c4725⟩ : ∃ v, I4699 a0 12 = v := ⟨_, rfl⟩
                              obtain ⟨v4726, c4727⟩ : ∃ v, I4699 a0 8 = v := ⟨_, rfl⟩
                              have b4728 := iv15_8 hS4700.1 ta0 c4727
                              exact tr_vret hZ dX12_readAlp_93 rfl (by decide) (by decide) ⟨rfl, rfl, rfl, rfl, rfl, hS4700, (fun b hb => (Option.some.inj (d2.symm.trans hb)) ▸ (((((((((((((((((((FrM.rf (R := R0) (b := a1) (T := T)).st g74 (by decide +kernel)).st g126 (by decide +kernel)).st g4394 (by decide +kernel)).st g4414 (by decide +kernel)).st g4442 (by decide +kernel)).pu f4461 (by decide) (by decide) d67).st g4480 (by decide +kernel)).st g4502 (by decide +kernel)).pu f4521 (by decide) (by decide) d67).st g4540 (by decide +kernel)).st g4562 (by decide +kernel)).pu f4581 (by decide) (by decide) d67).st g4600 (by decide +kernel)).st g4622 (by decide +kernel)).pu f4641 (by decide) (by decide) d67).st g4660 (by decide +kernel)).st g4682 (by decide +kernel)).pu f4701 (by decide) (by decide) d67)), (fun dr hd => (Option.some.inj (d2.symm.trans hd)) ▸ hO4708), (Or.inr (⟨(by (try rw [w109]); first | done | with_reducible assumption | omega), (by (try rw [w109]); (try rw [c4705]); first | done | with_reducible assumption | omega), (by (try rw [w109]); (try rw [c4706]); first | done | with_reducible assumption | omega), (by (try rw [w109]); (try rw [c4707]); first | done | with_reducible assumption | omega), trivial⟩)), trivial⟩
                          · skip
                            exfalso; omega
        · skip
          exfalso; omega
    · skip
      obtain ⟨v4729, c4730⟩ : ∃ v, I123 a0 9 = v := ⟨_, rfl⟩
      have b4731 := iv15_9 hS131.1 ta0 c4730
      rw [c4730] at p159
      obtain ⟨v4732, c4733⟩ : ∃ v, I123 a0 13 = v := ⟨_, rfl⟩
      rw [c4733] at p160
      obtain ⟨v4734, c4735⟩ : ∃ v, I123 a0 14 = v := ⟨_, rfl⟩
      rw [c4735] at p161
      replace hF := hF.neg (by omega)
      replace hP := hP.neg (by omega)
      replace hF := hF.pos (by omega)
      replace hP := hP.pos (by omega)
      refine tr_istore_n dX12_readAlp_30 (by decide) (by decide) ?_
      refine tr_aload_n dX12_readAlp_31 rfl ?_
      refine tr_ldcS dX12_readAlp_32 ld12_253 ?_
      refine q_iconst dX12_readAlp_34 (by decide) ?_
      intro v4736 h4737
      refine q_iconst dX12_readAlp_35 (by decide) ?_
      intro v4738 h4739
      refine q_callVi hE (M' := mX12_readPart) (as := [_, _, _]) dX12_readAlp_36 lk12_249 inX12_readPart seX12_readPart myX12_readPart (by decide) ⟨by decide, by decide⟩ rfl (kR15 hS131.1 ta0) (Nat.le_of_ble_eq_true rfl) rfl rfl (by decide) (by decide) (k_X12_readPart hS131.1 ta0 (by decide)) ?_
      rintro v4744 cn' K' N' I4740 R4741 L4742 ⟨rfl, rfl, rfl, rfl, g4743, p4745, w4746, -⟩
      have hS4747 := hS131.tr g4743 (by decide +kernel) (by decide +kernel)
      have c4748 : I4740 a1 0 = v29 := (g4743.cell ta1 (by decide +kernel)).trans c132
      have c4749 : I4740 a1 1 = v33 := (g4743.cell ta1 (by decide +kernel)).trans c133
      have b4750 : 1 ≤ v4744.toInt ∧ v4744.toInt ≤ 4 := by omega
      clear p4745
      have hO4751 : FrO 14 a1 T I0 I4740 := hO134.st g4743 (by decide +kernel)
      have ov4752 := w4746.over (by rw [c4730]; omega)
      obtain ⟨v4753, c4754⟩ : ∃ v, I4740 a0 9 = v := ⟨_, rfl⟩
      have b4755 := iv15_9 hS4747.1 ta0 c4754
      obtain ⟨v4756, c4757⟩ : ∃ v, I4740 a0 13 = v := ⟨_, rfl⟩
      obtain ⟨v4758, c4759⟩ : ∃ v, I4740 a0 14 = v := ⟨_, rfl⟩
      (try rw [c4754] at ov4752)
      (try rw [c4757] at ov4752)
      (try rw [c4759] at ov4752)
      (try rw [c4730] at ov4752)
      (try rw [c4733] at ov4752)
      (try rw [c4735] at ov4752)
      refine tr_istore_n dX12_readAlp_39 (by decide) (by decide) ?_
      refine tr_aload_n dX12_readAlp_40 rfl ?_
      refine tr_ldcS dX12_readAlp_41 ld12_255 ?_
      refine q_callVv hE (M' := mX12_needs) (as := [_]) dX12_readAlp_43 lk12_157 inX12_needs seX12_needs myX12_needs (by decide) ⟨by decide, by decide⟩ rfl (kR15 hS4747.1 ta0) (Nat.le_of_ble_eq_true rfl) rfl rfl (by decide) (by decide) (k_X12_needs hS4747.1 ta0 (by decide)) ?_
      rintro cn' K' N' I4760 R4761 L4762 ⟨rfl, rfl, rfl, rfl, g4763, w4765, -⟩
      have hS4766 := hS4747.tr g4763 (by decide +kernel) (by decide +kernel)
      have c4767 : I4760 a1 0 = v29 := (g4763.cell ta1 (by decide +kernel)).trans c4748
      have c4768 : I4760 a1 1 = v33 := (g4763.cell ta1 (by decide +kernel)).trans c4749
      have hO4769 : FrO 14 a1 T I0 I4760 := hO4751.st g4763 (by decide +kernel)
      have ov4770 := w4765.over (by rw [c4754]; omega)
      obtain ⟨v4771, c4772⟩ : ∃ v, I4760 a0 9 = v := ⟨_, rfl⟩
      have b4773 := iv15_9 hS4766.1 ta0 c4772
      obtain ⟨v4774, c4775⟩ : ∃ v, I4760 a0 13 = v := ⟨_, rfl⟩
      obtain ⟨v4776, c4777⟩ : ∃ v, I4760 a0 14 = v := ⟨_, rfl⟩
      (try rw [c4772] at ov4770)
      (try rw [c4775] at ov4770)
      (try rw [c4777] at ov4770)
      (try rw [c4754] at ov4770)
      (try rw [c4757] at ov4770)
      (try rw [c4759] at ov4770)
      refine q_iconst dX12_readAlp_46 (by decide) ?_
      intro v4778 h4779
      refine tr_istore_n dX12_readAlp_47 (by decide) (by decide) ?_
      refine tr_iload_n dX12_readAlp_48 rfl ?_
      refine q_iconst dX12_readAlp_49 (by decide) ?_
      intro v4780 h4781
      refine q_icmp_ge 85 dX12_readAlp_50 (by decide) (fun h4782 => ?_) (fun h4782 => ?_)
      · skip
        exfalso; omega
      · skip
        refine tr_iload_n dX12_readAlp_53 rfl ?_
        refine q_if_le 63 dX12_readAlp_54 (by decide) (fun h4783 => ?_) (fun h4783 => ?_)
        · skip
          refine tr_aload_n dX12_readAlp_63 rfl ?_
          refine tr_getR dX12_readAlp_64 fl12_188 (kR15 hS4766.1 ta0) d2 ?_
          refine tr_getR dX12_readAlp_67 fl12_260 (kR14 hS4766.1 ta1) d67 ?_
          refine tr_iload_n dX12_readAlp_70 rfl ?_
          refine tr_aload_n dX12_readAlp_71 rfl ?_
          refine q_iconst dX12_readAlp_72 (by decide) ?_
          intro v4784 h4785
          refine q_bipush dX12_readAlp_73 (by decide +kernel) ?_
          intro v4786 h4787
          refine q_callVi hE (M' := mX12_readWhole) (as := [_, _]) dX12_readAlp_75 lk12_161 inX12_readWhole seX12_readWhole myX12_readWhole (by decide) ⟨by decide, by decide⟩ rfl (kR15 hS4766.1 ta0) (Nat.le_of_ble_eq_true rfl) rfl rfl (by decide) (by decide) (k_X12_readWhole hS4766.1 ta0) ?_
          rintro v4792 cn' K' N' I4788 R4789 L4790 ⟨rfl, rfl, rfl, rfl, g4791, p4793, w4794, -⟩
          have hS4795 := hS4766.tr g4791 (by decide +kernel) (by decide +kernel)
          have c4796 : I4788 a1 0 = v29 := (g4791.cell ta1 (by decide +kernel)).trans c4767
          have c4797 : I4788 a1 1 = v33 := (g4791.cell ta1 (by decide +kernel)).trans c4768
          have b4798 : 0 ≤ v4792.toInt ∧ v4792.toInt ≤ 99 := by omega
          clear p4793
          have hO4799 : FrO 14 a1 T I0 I4788 := hO4769.st g4791 (by decide +kernel)
          have ov4800 := w4794.over (by rw [c4772]; omega)
          obtain ⟨v4801, c4802⟩ : ∃ v, I4788 a0 9 = v := ⟨_, rfl⟩
          have b4803 := iv15_9 hS4795.1 ta0 c4802
          obtain ⟨v4804, c4805⟩ : ∃ v, I4788 a0 13 = v := ⟨_, rfl⟩
          obtain ⟨v4806, c4807⟩ : ∃ v, I4788 a0 14 = v := ⟨_, rfl⟩
          (try rw [c4802] at ov4800)
          (try rw [c4805] at ov4800)
          (try rw [c4807] at ov4800)
          (try rw [c4772] at ov4800)
          (try rw [c4775] at ov4800)
          (try rw [c4777] at ov4800)
          refine q_iast dX12_readAlp_78 (kR53 hS4795.1 ta66) (ti_in (nR53 hS4795.1 ta66) (by omega) (by omega)) hS4795 ta66 (iokF rfl) rfl (by rfl) ?_
          intro I4808 hS4809 e4811 f4810
          have c4812 : I4808 a1 0 = v29 := (f4810 _ _ (fun q => by have z := ta1; rw [q.1, ta66] at z; exact absurd z (by decide))).trans c4796
          have c4813 : I4808 a1 1 = v33 := (f4810 _ _ (fun q => by have z := ta1; rw [q.1, ta66] at z; exact absurd z (by decide))).trans c4797
          have c4814 : I4808 a0 9 = v4801 := (f4810 _ _ (fun q => by have z := ta0; rw [q.1, ta66] at z; exact absurd z (by decide))).trans c4802
          have c4815 : I4808 a0 13 = v4804 := (f4810 _ _ (fun q => by have z := ta0; rw [q.1, ta66] at z; exact absurd z (by decide))).trans c4805
          have c4816 : I4808 a0 14 = v4806 := (f4810 _ _ (fun q => by have z := ta0; rw [q.1, ta66] at z; exact absurd z (by decide))).trans c4807
          have hO4817 : FrO 14 a1 T I0 I4808 := hO4799.put f4810 ta66 (Or.inl (by decide))
          refine q_iincE dX12_readAlp_79 rfl (by decide) (by decide) (by intros; omega) ?_
          intro v4818 h4819
          refine tr_goto 48 dX12_readAlp_82 (by decide) ?_
          refine tr_iload_n dX12_readAlp_48 rfl ?_
          refine q_iconst dX12_readAlp_49 (by decide) ?_
          intro v4820 h4821
          refine q_icmp_ge 85 dX12_readAlp_50 (by decide) (fun h4822 => ?_) (fun h4822 => ?_)
          · skip
            exfalso; omega
          · skip
            refine tr_iload_n dX12_readAlp_53 rfl ?_
            refine q_if_le 63 dX12_readAlp_54 (by decide) (fun h4823 => ?_) (fun h4823 => ?_)
            · skip
              exfalso; omega
            · skip
              refine tr_aload_n dX12_readAlp_57 rfl ?_
              refine q_bipush dX12_readAlp_58 (by decide +kernel) ?_
              intro v4824 h4825
              refine q_callVv hE (M' := mX12_needsSign) (as := [_]) dX12_readAlp_60 lk12_257 inX12_needsSign seX12_needsSign myX12_needsSign (by decide) ⟨by decide, by decide⟩ rfl (kR15 hS4809.1 ta0) (Nat.le_of_ble_eq_true rfl) rfl rfl (by decide) (by decide) (k_X12_needsSign hS4809.1 ta0) ?_
              rintro cn' K' N' I4826 R4827 L4828 ⟨rfl, rfl, rfl, rfl, g4829, w4831, -⟩
              have hS4832 := hS4809.tr g4829 (by decide +kernel) (by decide +kernel)
              have c4833 : I4826 a1 0 = v29 := (g4829.cell ta1 (by decide +kernel)).trans c4812
              have c4834 : I4826 a1 1 = v33 := (g4829.cell ta1 (by decide +kernel)).trans c4813
              have hO4835 : FrO 14 a1 T I0 I4826 := hO4817.st g4829 (by decide +kernel)
              have ov4836 := w4831.over (by rw [c4814]; omega)
              obtain ⟨v4837, c4838⟩ : ∃ v, I4826 a0 9 = v := ⟨_, rfl⟩
              have b4839 := iv15_9 hS4832.1 ta0 c4838
              obtain ⟨v4840, c4841⟩ : ∃ v, I4826 a0 13 = v := ⟨_, rfl⟩
              obtain ⟨v4842, c4843⟩ : ∃ v, I4826 a0 14 = v := ⟨_, rfl⟩
              (try rw [c4838] at ov4836)
              (try rw [c4841] at ov4836)
              (try rw [c4843] at ov4836)
              (try rw [c4814] at ov4836)
              (try rw [c4815] at ov4836)
              (try rw [c4816] at ov4836)
              refine tr_aload_n dX12_readAlp_63 rfl ?_
              refine tr_getR dX12_readAlp_64 fl12_188 (kR15 hS4832.1 ta0) d2 ?_
              refine tr_getR dX12_readAlp_67 fl12_260 (kR14 hS4832.1 ta1) d67 ?_
              refine tr_iload_n dX12_readAlp_70 rfl ?_
              refine tr_aload_n dX12_readAlp_71 rfl ?_
              refine q_iconst dX12_readAlp_72 (by decide) ?_
              intro v4844 h4845
              refine q_bipush dX12_readAlp_73 (by decide +kernel) ?_
              intro v4846 h4847
              refine q_callVi hE (M' := mX12_readWhole) (as := [_, _]) dX12_readAlp_75 lk12_161 inX12_readWhole seX12_readWhole myX12_readWhole (by decide) ⟨by decide, by decide⟩ rfl (kR15 hS4832.1 ta0) (Nat.le_of_ble_eq_true rfl) rfl rfl (by decide) (by decide) (k_X12_readWhole hS4832.1 ta0) ?_
              rintro v4852 cn' K' N' I4848 R4849 L4850 ⟨rfl, rfl, rfl, rfl, g4851, p4853, w4854, -⟩
              have hS4855 := hS4832.tr g4851 (by decide +kernel) (by decide +kernel)
              have c4856 : I4848 a1 0 = v29 := (g4851.cell ta1 (by decide +kernel)).trans c4833
              have c4857 : I4848 a1 1 = v33 := (g4851.cell ta1 (by decide +kernel)).trans c4834
              have b4858 : 0 ≤ v4852.toInt ∧ v4852.toInt ≤ 99 := by omega
              clear p4853
              have hO4859 : FrO 14 a1 T I0 I4848 := hO4835.st g4851 (by decide +kernel)
              have ov4860 := w4854.over (by rw [c4838]; omega)
              obtain ⟨v4861, c4862⟩ : ∃ v, I4848 a0 9 = v := ⟨_, rfl⟩
              have b4863 := iv15_9 hS4855.1 ta0 c4862
              obtain ⟨v4864, c4865⟩ : ∃ v, I4848 a0 13 = v := ⟨_, rfl⟩
              obtain ⟨v4866, c4867⟩ : ∃ v, I4848 a0 14 = v := ⟨_, rfl⟩
              (try rw [c4862] at ov4860)
              (try rw [c4865] at ov4860)
              (try rw [c4867] at ov4860)
              (try rw [c4838] at ov4860)
              (try rw [c4841] at ov4860)
              (try rw [c4843] at ov4860)
              refine q_iast dX12_readAlp_78 (kR53 hS4855.1 ta66) (ti_in (nR53 hS4855.1 ta66) (by omega) (by omega)) hS4855 ta66 (iokF rfl) rfl (by rfl) ?_
              intro I4868 hS4869 e4871 f4870
              have c4872 : I4868 a1 0 = v29 := (f4870 _ _ (fun q => by have z := ta1; rw [q.1, ta66] at z; exact absurd z (by decide))).trans c4856
              have c4873 : I4868 a1 1 = v33 := (f4870 _ _ (fun q => by have z := ta1; rw [q.1, ta66] at z; exact absurd z (by decide))).trans c4857
              have c4874 : I4868 a0 9 = v4861 := (f4870 _ _ (fun q => by have z := ta0; rw [q.1, ta66] at z; exact absurd z (by decide))).trans c4862
              have c4875 : I4868 a0 13 = v4864 := (f4870 _ _ (fun q => by have z := ta0; rw [q.1, ta66] at z; exact absurd z (by decide))).trans c4865
              have c4876 : I4868 a0 14 = v4866 := (f4870 _ _ (fun q => by have z := ta0; rw [q.1, ta66] at z; exact absurd z (by decide))).trans c4867
              have hO4877 : FrO 14 a1 T I0 I4868 := hO4859.put f4870 ta66 (Or.inl (by decide))
              refine q_iincE dX12_readAlp_79 rfl (by decide) (by decide) (by intros; omega) ?_
              intro v4878 h4879
              refine tr_goto 48 dX12_readAlp_82 (by decide) ?_
              refine tr_iload_n dX12_readAlp_48 rfl ?_
              refine q_iconst dX12_readAlp_49 (by decide) ?_
              intro v4880 h4881
              refine q_icmp_ge 85 dX12_readAlp_50 (by decide) (fun h4882 => ?_) (fun h4882 => ?_)
              · skip
                exfalso; omega
              · skip
                refine tr_iload_n dX12_readAlp_53 rfl ?_
                refine q_if_le 63 dX12_readAlp_54 (by decide) (fun h4883 => ?_) (fun h4883 => ?_)
                · skip
                  exfalso; omega
                · skip
                  refine tr_aload_n dX12_readAlp_57 rfl ?_
                  refine q_bipush dX12_readAlp_58 (by decide +kernel) ?_
                  intro v4884 h4885
                  refine q_callVv hE (M' := mX12_needsSign) (as := [_]) dX12_readAlp_60 lk12_257 inX12_needsSign seX12_needsSign myX12_needsSign (by decide) ⟨by decide, by decide⟩ rfl (kR15 hS4869.1 ta0) (Nat.le_of_ble_eq_true rfl) rfl rfl (by decide) (by decide) (k_X12_needsSign hS4869.1 ta0) ?_
                  rintro cn' K' N' I4886 R4887 L4888 ⟨rfl, rfl, rfl, rfl, g4889, w4891, -⟩
                  have hS4892 := hS4869.tr g4889 (by decide +kernel) (by decide +kernel)
                  have c4893 : I4886 a1 0 = v29 := (g4889.cell ta1 (by decide +kernel)).trans c4872
                  have c4894 : I4886 a1 1 = v33 := (g4889.cell ta1 (by decide +kernel)).trans c4873
                  have hO4895 : FrO 14 a1 T I0 I4886 := hO4877.st g4889 (by decide +kernel)
                  have ov4896 := w4891.over (by rw [c4874]; omega)
                  obtain ⟨v4897, c4898⟩ : ∃ v, I4886 a0 9 = v := ⟨_, rfl⟩
                  have b4899 := iv15_9 hS4892.1 ta0 c4898
                  obtain ⟨v4900, c4901⟩ : ∃ v, I4886 a0 13 = v := ⟨_, rfl⟩
                  obtain ⟨v4902, c4903⟩ : ∃ v, I4886 a0 14 = v := ⟨_, rfl⟩
                  (try rw [c4898] at ov4896)
                  (try rw [c4901] at ov4896)
                  (try rw [c4903] at ov4896)
                  (try rw [c4874] at ov4896)
                  (try rw [c4875] at ov4896)
                  (try rw [c4876] at ov4896)
                  refine tr_aload_n dX12_readAlp_63 rfl ?_
                  refine tr_getR dX12_readAlp_64 fl12_188 (kR15 hS4892.1 ta0) d2 ?_
                  refine tr_getR dX12_readAlp_67 fl12_260 (kR14 hS4892.1 ta1) d67 ?_
                  refine tr_iload_n dX12_readAlp_70 rfl ?_
                  refine tr_aload_n dX12_readAlp_71 rfl ?_
                  refine q_iconst dX12_readAlp_72 (by decide) ?_
                  intro v4904 h4905
                  refine q_bipush dX12_readAlp_73 (by decide +kernel) ?_
                  intro v4906 h4907
                  refine q_callVi hE (M' := mX12_readWhole) (as := [_, _]) dX12_readAlp_75 lk12_161 inX12_readWhole seX12_readWhole myX12_readWhole (by decide) ⟨by decide, by decide⟩ rfl (kR15 hS4892.1 ta0) (Nat.le_of_ble_eq_true rfl) rfl rfl (by decide) (by decide) (k_X12_readWhole hS4892.1 ta0) ?_
                  rintro v4912 cn' K' N' I4908 R4909 L4910 ⟨rfl, rfl, rfl, rfl, g4911, p4913, w4914, -⟩
                  have hS4915 := hS4892.tr g4911 (by decide +kernel) (by decide +kernel)
                  have c4916 : I4908 a1 0 = v29 := (g4911.cell ta1 (by decide +kernel)).trans c4893
                  have c4917 : I4908 a1 1 = v33 := (g4911.cell ta1 (by decide +kernel)).trans c4894
                  have b4918 : 0 ≤ v4912.toInt ∧ v4912.toInt ≤ 99 := by omega
                  clear p4913
                  have hO4919 : FrO 14 a1 T I0 I4908 := hO4895.st g4911 (by decide +kernel)
                  have ov4920 := w4914.over (by rw [c4898]; omega)
                  obtain ⟨v4921, c4922⟩ : ∃ v, I4908 a0 9 = v := ⟨_, rfl⟩
                  have b4923 := iv15_9 hS4915.1 ta0 c4922
                  obtain ⟨v4924, c4925⟩ : ∃ v, I4908 a0 13 = v := ⟨_, rfl⟩
                  obtain ⟨v4926, c4927⟩ : ∃ v, I4908 a0 14 = v := ⟨_, rfl⟩
                  (try rw [c4922] at ov4920)
                  (try rw [c4925] at ov4920)
                  (try rw [c4927] at ov4920)
                  (try rw [c4898] at ov4920)
                  (try rw [c4901] at ov4920)
                  (try rw [c4903] at ov4920)
                  refine q_iast dX12_readAlp_78 (kR53 hS4915.1 ta66) (ti_in (nR53 hS4915.1 ta66) (by omega) (by omega)) hS4915 ta66 (iokF rfl) rfl (by rfl) ?_
                  intro I4928 hS4929 e4931 f4930
                  have c4932 : I4928 a1 0 = v29 := (f4930 _ _ (fun q => by have z := ta1; rw [q.1, ta66] at z; exact absurd z (by decide))).trans c4916
                  have c4933 : I4928 a1 1 = v33 := (f4930 _ _ (fun q => by have z := ta1; rw [q.1, ta66] at z; exact absurd z (by decide))).trans c4917
                  have c4934 : I4928 a0 9 = v4921 := (f4930 _ _ (fun q => by have z := ta0; rw [q.1, ta66] at z; exact absurd z (by decide))).trans c4922
                  have c4935 : I4928 a0 13 = v4924 := (f4930 _ _ (fun q => by have z := ta0; rw [q.1, ta66] at z; exact absurd z (by decide))).trans c4925
                  have c4936 : I4928 a0 14 = v4926 := (f4930 _ _ (fun q => by have z := ta0; rw [q.1, ta66] at z; exact absurd z (by decide))).trans c4927
                  have hO4937 : FrO 14 a1 T I0 I4928 := hO4919.put f4930 ta66 (Or.inl (by decide))
                  refine q_iincE dX12_readAlp_79 rfl (by decide) (by decide) (by intros; omega) ?_
                  intro v4938 h4939
                  refine tr_goto 48 dX12_readAlp_82 (by decide) ?_
                  refine tr_iload_n dX12_readAlp_48 rfl ?_
                  refine q_iconst dX12_readAlp_49 (by decide) ?_
                  intro v4940 h4941
                  refine q_icmp_ge 85 dX12_readAlp_50 (by decide) (fun h4942 => ?_) (fun h4942 => ?_)
                  · skip
                    exfalso; omega
                  · skip
                    refine tr_iload_n dX12_readAlp_53 rfl ?_
                    refine q_if_le 63 dX12_readAlp_54 (by decide) (fun h4943 => ?_) (fun h4943 => ?_)
                    · skip
                      exfalso; omega
                    · skip
                      refine tr_aload_n dX12_readAlp_57 rfl ?_
                      refine q_bipush dX12_readAlp_58 (by decide +kernel) ?_
                      intro v4944 h4945
                      refine q_callVv hE (M' := mX12_needsSign) (as := [_]) dX12_readAlp_60 lk12_257 inX12_needsSign seX12_needsSign myX12_needsSign (by decide) ⟨by decide, by decide⟩ rfl (kR15 hS4929.1 ta0) (Nat.le_of_ble_eq_true rfl) rfl rfl (by decide) (by decide) (k_X12_needsSign hS4929.1 ta0) ?_
                      rintro cn' K' N' I4946 R4947 L4948 ⟨rfl, rfl, rfl, rfl, g4949, w4951, -⟩
                      have hS4952 := hS4929.tr g4949 (by decide +kernel) (by decide +kernel)
                      have c4953 : I4946 a1 0 = v29 := (g4949.cell ta1 (by decide +kernel)).trans c4932
                      have c4954 : I4946 a1 1 = v33 := (g4949.cell ta1 (by decide +kernel)).trans c4933
                      have hO4955 : FrO 14 a1 T I0 I4946 := hO4937.st g4949 (by decide +kernel)
                      have ov4956 := w4951.over (by rw [c4934]; omega)
                      obtain ⟨v4957, c4958⟩ : ∃ v, I4946 a0 9 = v := ⟨_, rfl⟩
                      have b4959 := iv15_9 hS4952.1 ta0 c4958
                      obtain ⟨v4960, c4961⟩ : ∃ v, I4946 a0 13 = v := ⟨_, rfl⟩
                      obtain ⟨v4962, c4963⟩ : ∃ v, I4946 a0 14 = v := ⟨_, rfl⟩
                      (try rw [c4958] at ov4956)
                      (try rw [c4961] at ov4956)
                      (try rw [c4963] at ov4956)
                      (try rw [c4934] at ov4956)
                      (try rw [c4935] at ov4956)
                      (try rw [c4936] at ov4956)
                      refine tr_aload_n dX12_readAlp_63 rfl ?_
                      refine tr_getR dX12_readAlp_64 fl12_188 (kR15 hS4952.1 ta0) d2 ?_
                      refine tr_getR dX12_readAlp_67 fl12_260 (kR14 hS4952.1 ta1) d67 ?_
                      refine tr_iload_n dX12_readAlp_70 rfl ?_
                      refine tr_aload_n dX12_readAlp_71 rfl ?_
                      refine q_iconst dX12_readAlp_72 (by decide) ?_
                      intro v4964 h4965
                      refine q_bipush dX12_readAlp_73 (by decide +kernel) ?_
                      intro v4966 h4967
                      refine q_callVi hE (M' := mX12_readWhole) (as := [_, _]) dX12_readAlp_75 lk12_161 inX12_readWhole seX12_readWhole myX12_readWhole (by decide) ⟨by decide, by decide⟩ rfl (kR15 hS4952.1 ta0) (Nat.le_of_ble_eq_true rfl) rfl rfl (by decide) (by decide) (k_X12_readWhole hS4952.1 ta0) ?_
                      rintro v4972 cn' K' N' I4968 R4969 L4970 ⟨rfl, rfl, rfl, rfl, g4971, p4973, w4974, -⟩
                      have hS4975 := hS4952.tr g4971 (by decide +kernel) (by decide +kernel)
                      have c4976 : I4968 a1 0 = v29 := (g4971.cell ta1 (by decide +kernel)).trans c4953
                      have c4977 : I4968 a1 1 = v33 := (g4971.cell ta1 (by decide +kernel)).trans c4954
                      have b4978 : 0 ≤ v4972.toInt ∧ v4972.toInt ≤ 99 := by omega
                      clear p4973
                      have hO4979 : FrO 14 a1 T I0 I4968 := hO4955.st g4971 (by decide +kernel)
                      have ov4980 := w4974.over (by rw [c4958]; omega)
                      obtain ⟨v4981, c4982⟩ : ∃ v, I4968 a0 9 = v := ⟨_, rfl⟩
                      have b4983 := iv15_9 hS4975.1 ta0 c4982
                      obtain ⟨v4984, c4985⟩ : ∃ v, I4968 a0 13 = v := ⟨_, rfl⟩
                      obtain ⟨v4986, c4987⟩ : ∃ v, I4968 a0 14 = v := ⟨_, rfl⟩
                      (try rw [c4982] at ov4980)
                      (try rw [c4985] at ov4980)
                      (try rw [c4987] at ov4980)
                      (try rw [c4958] at ov4980)
                      (try rw [c4961] at ov4980)
                      (try rw [c4963] at ov4980)
                      refine q_iast dX12_readAlp_78 (kR53 hS4975.1 ta66) (ti_in (nR53 hS4975.1 ta66) (by omega) (by omega)) hS4975 ta66 (iokF rfl) rfl (by rfl) ?_
                      intro I4988 hS4989 e4991 f4990
                      have c4992 : I4988 a1 0 = v29 := (f4990 _ _ (fun q => by have z := ta1; rw [q.1, ta66] at z; exact absurd z (by decide))).trans c4976
                      have c4993 : I4988 a1 1 = v33 := (f4990 _ _ (fun q => by have z := ta1; rw [q.1, ta66] at z; exact absurd z (by decide))).trans c4977
                      have c4994 : I4988 a0 9 = v4981 := (f4990 _ _ (fun q => by have z := ta0; rw [q.1, ta66] at z; exact absurd z (by decide))).trans c4982
                      have c4995 : I4988 a0 13 = v4984 := (f4990 _ _ (fun q => by have z := ta0; rw [q.1, ta66] at z; exact absurd z (by decide))).trans c4985
                      have c4996 : I4988 a0 14 = v4986 := (f4990 _ _ (fun q => by have z := ta0; rw [q.1, ta66] at z; exact absurd z (by decide))).trans c4987
                      have hO4997 : FrO 14 a1 T I0 I4988 := hO4979.put f4990 ta66 (Or.inl (by decide))
                      refine q_iincE dX12_readAlp_79 rfl (by decide) (by decide) (by intros; omega) ?_
                      intro v4998 h4999
                      refine tr_goto 48 dX12_readAlp_82 (by decide) ?_
                      refine tr_iload_n dX12_readAlp_48 rfl ?_
                      refine q_iconst dX12_readAlp_49 (by decide) ?_
                      intro v5000 h5001
                      refine q_icmp_ge 85 dX12_readAlp_50 (by decide) (fun h5002 => ?_) (fun h5002 => ?_)
                      · skip
                        exfalso; omega
                      · skip
                        refine tr_iload_n dX12_readAlp_53 rfl ?_
                        refine q_if_le 63 dX12_readAlp_54 (by decide) (fun h5003 => ?_) (fun h5003 => ?_)
                        · skip
                          exfalso; omega
                        · skip
                          refine tr_aload_n dX12_readAlp_57 rfl ?_
                          refine q_bipush dX12_readAlp_58 (by decide +kernel) ?_
                          intro v5004 h5005
                          refine q_callVv hE (M' := mX12_needsSign) (as := [_]) dX12_readAlp_60 lk12_257 inX12_needsSign seX12_needsSign myX12_needsSign (by decide) ⟨by decide, by decide⟩ rfl (kR15 hS4989.1 ta0) (Nat.le_of_ble_eq_true rfl) rfl rfl (by decide) (by decide) (k_X12_needsSign hS4989.1 ta0) ?_
                          rintro cn' K' N' I5006 R5007 L5008 ⟨rfl, rfl, rfl, rfl, g5009, w5011, -⟩
                          have hS5012 := hS4989.tr g5009 (by decide +kernel) (by decide +kernel)
                          have c5013 : I5006 a1 0 = v29 := (g5009.cell ta1 (by decide +kernel)).trans c4992
                          have c5014 : I5006 a1 1 = v33 := (g5009.cell ta1 (by decide +kernel)).trans c4993
                          have hO5015 : FrO 14 a1 T I0 I5006 := hO4997.st g5009 (by decide +kernel)
                          have ov5016 := w5011.over (by rw [c4994]; omega)
                          obtain ⟨v5017, c5018⟩ : ∃ v, I5006 a0 9 = v := ⟨_, rfl⟩
                          have b5019 := iv15_9 hS5012.1 ta0 c5018
                          obtain ⟨v5020, c5021⟩ : ∃ v, I5006 a0 13 = v := ⟨_, rfl⟩
                          obtain ⟨v5022, c5023⟩ : ∃ v, I5006 a0 14 = v := ⟨_, rfl⟩
                          (try rw [c5018] at ov5016)
                          (try rw [c5021] at ov5016)
                          (try rw [c5023] at ov5016)
                          (try rw [c4994] at ov5016)
                          (try rw [c4995] at ov5016)
                          (try rw [c4996] at ov5016)
                          refine tr_aload_n dX12_readAlp_63 rfl ?_
                          refine tr_getR dX12_readAlp_64 fl12_188 (kR15 hS5012.1 ta0) d2 ?_
                          refine tr_getR dX12_readAlp_67 fl12_260 (kR14 hS5012.1 ta1) d67 ?_
                          refine tr_iload_n dX12_readAlp_70 rfl ?_
                          refine tr_aload_n dX12_readAlp_71 rfl ?_
                          refine q_iconst dX12_readAlp_72 (by decide) ?_
                          intro v5024 h5025
                          refine q_bipush dX12_readAlp_73 (by decide +kernel) ?_
                          intro v5026 h5027
                          refine q_callVi hE (M' := mX12_readWhole) (as := [_, _]) dX12_readAlp_75 lk12_161 inX12_readWhole seX12_readWhole myX12_readWhole (by decide) ⟨by decide, by decide⟩ rfl (kR15 hS5012.1 ta0) (Nat.le_of_ble_eq_true rfl) rfl rfl (by decide) (by decide) (k_X12_readWhole hS5012.1 ta0) ?_
                          rintro v5032 cn' K' N' I5028 R5029 L5030 ⟨rfl, rfl, rfl, rfl, g5031, p5033, w5034, -⟩
                          have hS5035 := hS5012.tr g5031 (by decide +kernel) (by decide +kernel)
                          have c5036 : I5028 a1 0 = v29 := (g5031.cell ta1 (by decide +kernel)).trans c5013
                          have c5037 : I5028 a1 1 = v33 := (g5031.cell ta1 (by decide +kernel)).trans c5014
                          have b5038 : 0 ≤ v5032.toInt ∧ v5032.toInt ≤ 99 := by omega
                          clear p5033
                          have hO5039 : FrO 14 a1 T I0 I5028 := hO5015.st g5031 (by decide +kernel)
                          have ov5040 := w5034.over (by rw [c5018]; omega)
                          obtain ⟨v5041, c5042⟩ : ∃ v, I5028 a0 9 = v := ⟨_, rfl⟩
                          have b5043 := iv15_9 hS5035.1 ta0 c5042
                          obtain ⟨v5044, c5045⟩ : ∃ v, I5028 a0 13 = v := ⟨_, rfl⟩
                          obtain ⟨v5046, c5047⟩ : ∃ v, I5028 a0 14 = v := ⟨_, rfl⟩
                          (try rw [c5042] at ov5040)
                          (try rw [c5045] at ov5040)
                          (try rw [c5047] at ov5040)
                          (try rw [c5018] at ov5040)
                          (try rw [c5021] at ov5040)
                          (try rw [c5023] at ov5040)
                          refine q_iast dX12_readAlp_78 (kR53 hS5035.1 ta66) (ti_in (nR53 hS5035.1 ta66) (by omega) (by omega)) hS5035 ta66 (iokF rfl) rfl (by rfl) ?_
                          intro I5048 hS5049 e5051 f5050
                          have c5052 : I5048 a1 0 = v29 := (f5050 _ _ (fun q => by have z := ta1; rw [q.1, ta66] at z; exact absurd z (by decide))).trans c5036
                          have c5053 : I5048 a1 1 = v33 := (f5050 _ _ (fun q => by have z := ta1; rw [q.1, ta66] at z; exact absurd z (by decide))).trans c5037
                          have c5054 : I5048 a0 9 = v5041 := (f5050 _ _ (fun q => by have z := ta0; rw [q.1, ta66] at z; exact absurd z (by decide))).trans c5042
                          have c5055 : I5048 a0 13 = v5044 := (f5050 _ _ (fun q => by have z := ta0; rw [q.1, ta66] at z; exact absurd z (by decide))).trans c5045
                          have c5056 : I5048 a0 14 = v5046 := (f5050 _ _ (fun q => by have z := ta0; rw [q.1, ta66] at z; exact absurd z (by decide))).trans c5047
                          have hO5057 : FrO 14 a1 T I0 I5048 := hO5039.put f5050 ta66 (Or.inl (by decide))
                          refine q_iincE dX12_readAlp_79 rfl (by decide) (by decide) (by intros; omega) ?_
                          intro v5058 h5059
                          refine tr_goto 48 dX12_readAlp_82 (by decide) ?_
                          refine tr_iload_n dX12_readAlp_48 rfl ?_
                          refine q_iconst dX12_readAlp_49 (by decide) ?_
                          intro v5060 h5061
                          refine q_icmp_ge 85 dX12_readAlp_50 (by decide) (fun h5062 => ?_) (fun h5062 => ?_)
                          · skip
                            refine tr_aload_n dX12_readAlp_85 rfl ?_
                            refine q_getI dX12_readAlp_86 fl12_99 (kR15 hS5049.1 ta0) c5054 ?_
                            refine q_iconst dX12_readAlp_89 (by decide) ?_
                            intro v5063 h5064
                            refine q_icmp_ne 94 dX12_readAlp_90 (by decide) (fun h5065 => ?_) (fun h5065 => ?_)
                            · skip
                              exfalso; omega
                            · skip
                              have eF := hF.eq
                              have eP := hP.eq
                              obtain ⟨v5066, c5067⟩ : ∃ v, I5048 a0 10 = v := ⟨_, rfl⟩
                              have b5068 := iv15_10 hS5049.1 ta0 c5067
                              obtain ⟨v5069, c5070⟩ : ∃ v, I5048 a0 11 = v := ⟨_, rfl⟩
                              obtain ⟨y5071, c5072⟩ : ∃ v, L5030 a0 15 = v := ⟨_, rfl⟩
                              obtain ⟨v5073, c5074⟩ : ∃ v, I5048 a0 12 = v := ⟨_, rfl⟩
                              obtain ⟨v5075, c5076⟩ : ∃ v, I5048 a0 8 = v := ⟨_, rfl⟩
                              have b5077 := iv15_8 hS5049.1 ta0 c5076
                              exact tr_vret hZ dX12_readAlp_93 rfl (by decide) (by decide) ⟨rfl, rfl, rfl, rfl, rfl, hS5049, (fun b hb => (Option.some.inj (d2.symm.trans hb)) ▸ (((((((((((((((((((FrM.rf (R := R0) (b := a1) (T := T)).st g74 (by decide +kernel)).st g126 (by decide +kernel)).st g4743 (by decide +kernel)).st g4763 (by decide +kernel)).st g4791 (by decide +kernel)).pu f4810 (by decide) (by decide) d67).st g4829 (by decide +kernel)).st g4851 (by decide +kernel)).pu f4870 (by decide) (by decide) d67).st g4889 (by decide +kernel)).st g4911 (by decide +kernel)).pu f4930 (by decide) (by decide) d67).st g4949 (by decide +kernel)).st g4971 (by decide +kernel)).pu f4990 (by decide) (by decide) d67).st g5009 (by decide +kernel)).st g5031 (by decide +kernel)).pu f5050 (by decide) (by decide) d67)), (fun dr hd => (Option.some.inj (d2.symm.trans hd)) ▸ hO5057), (Or.inr (⟨(by (try rw [w109]); first | done | with_reducible assumption | omega), (by (try rw [w109]); (try rw [c5054]); first | done | with_reducible assumption | omega), (by (try rw [w109]); (try rw [c5055]); first | done | with_reducible assumption | omega), (by (try rw [w109]); (try rw [c5056]); first | done | with_reducible assumption | omega), trivial⟩)), trivial⟩
                          · skip
                            exfalso; omega
        · skip
          exfalso; omega
    · skip
      obtain ⟨v5078, c5079⟩ : ∃ v, I123 a0 9 = v := ⟨_, rfl⟩
      have b5080 := iv15_9 hS131.1 ta0 c5079
      rw [c5079] at p167
      obtain ⟨v5081, c5082⟩ : ∃ v, I123 a0 13 = v := ⟨_, rfl⟩
      rw [c5082] at p168
      obtain ⟨v5083, c5084⟩ : ∃ v, I123 a0 14 = v := ⟨_, rfl⟩
      rw [c5084] at p169
      replace hF := hF.neg (by omega)
      replace hP := hP.neg (by omega)
      replace hF := hF.neg (by omega)
      replace hP := hP.neg (by omega)
      replace hF := hF.pos (by omega)
      replace hP := hP.pos (by omega)
      refine tr_istore_n dX12_readAlp_30 (by decide) (by decide) ?_
      refine tr_aload_n dX12_readAlp_31 rfl ?_
      refine tr_ldcS dX12_readAlp_32 ld12_253 ?_
      refine q_iconst dX12_readAlp_34 (by decide) ?_
      intro v5085 h5086
      refine q_iconst dX12_readAlp_35 (by decide) ?_
      intro v5087 h5088
      refine q_callVi hE (M' := mX12_readPart) (as := [_, _, _]) dX12_readAlp_36 lk12_249 inX12_readPart seX12_readPart myX12_readPart (by decide) ⟨by decide, by decide⟩ rfl (kR15 hS131.1 ta0) (Nat.le_of_ble_eq_true rfl) rfl rfl (by decide) (by decide) (k_X12_readPart hS131.1 ta0 (by decide)) ?_
      rintro v5093 cn' K' N' I5089 R5090 L5091 ⟨rfl, rfl, rfl, rfl, g5092, p5094, w5095, -⟩
      have hS5096 := hS131.tr g5092 (by decide +kernel) (by decide +kernel)
      have c5097 : I5089 a1 0 = v29 := (g5092.cell ta1 (by decide +kernel)).trans c132
      have c5098 : I5089 a1 1 = v33 := (g5092.cell ta1 (by decide +kernel)).trans c133
      have b5099 : 1 ≤ v5093.toInt ∧ v5093.toInt ≤ 4 := by omega
      clear p5094
      have hO5100 : FrO 14 a1 T I0 I5089 := hO134.st g5092 (by decide +kernel)
      have ov5101 := w5095.over (by rw [c5079]; omega)
      obtain ⟨v5102, c5103⟩ : ∃ v, I5089 a0 9 = v := ⟨_, rfl⟩
      have b5104 := iv15_9 hS5096.1 ta0 c5103
      obtain ⟨v5105, c5106⟩ : ∃ v, I5089 a0 13 = v := ⟨_, rfl⟩
      obtain ⟨v5107, c5108⟩ : ∃ v, I5089 a0 14 = v := ⟨_, rfl⟩
      (try rw [c5103] at ov5101)
      (try rw [c5106] at ov5101)
      (try rw [c5108] at ov5101)
      (try rw [c5079] at ov5101)
      (try rw [c5082] at ov5101)
      (try rw [c5084] at ov5101)
      refine tr_istore_n dX12_readAlp_39 (by decide) (by decide) ?_
      refine tr_aload_n dX12_readAlp_40 rfl ?_
      refine tr_ldcS dX12_readAlp_41 ld12_255 ?_
      refine q_callVv hE (M' := mX12_needs) (as := [_]) dX12_readAlp_43 lk12_157 inX12_needs seX12_needs myX12_needs (by decide) ⟨by decide, by decide⟩ rfl (kR15 hS5096.1 ta0) (Nat.le_of_ble_eq_true rfl) rfl rfl (by decide) (by decide) (k_X12_needs hS5096.1 ta0 (by decide)) ?_
      rintro cn' K' N' I5109 R5110 L5111 ⟨rfl, rfl, rfl, rfl, g5112, w5114, -⟩
      have hS5115 := hS5096.tr g5112 (by decide +kernel) (by decide +kernel)
      have c5116 : I5109 a1 0 = v29 := (g5112.cell ta1 (by decide +kernel)).trans c5097
      have c5117 : I5109 a1 1 = v33 := (g5112.cell ta1 (by decide +kernel)).trans c5098
      have hO5118 : FrO 14 a1 T I0 I5109 := hO5100.st g5112 (by decide +kernel)
      have ov5119 := w5114.over (by rw [c5103]; omega)
      obtain ⟨v5120, c5121⟩ : ∃ v, I5109 a0 9 = v := ⟨_, rfl⟩
      have b5122 := iv15_9 hS5115.1 ta0 c5121
      obtain ⟨v5123, c5124⟩ : ∃ v, I5109 a0 13 = v := ⟨_, rfl⟩
      obtain ⟨v5125, c5126⟩ : ∃ v, I5109 a0 14 = v := ⟨_, rfl⟩
      (try rw [c5121] at ov5119)
      (try rw [c5124] at ov5119)
      (try rw [c5126] at ov5119)
      (try rw [c5103] at ov5119)
      (try rw [c5106] at ov5119)
      (try rw [c5108] at ov5119)
      refine q_iconst dX12_readAlp_46 (by decide) ?_
      intro v5127 h5128
      refine tr_istore_n dX12_readAlp_47 (by decide) (by decide) ?_
      refine tr_iload_n dX12_readAlp_48 rfl ?_
      refine q_iconst dX12_readAlp_49 (by decide) ?_
      intro v5129 h5130
      refine q_icmp_ge 85 dX12_readAlp_50 (by decide) (fun h5131 => ?_) (fun h5131 => ?_)
      · skip
        exfalso; omega
      · skip
        refine tr_iload_n dX12_readAlp_53 rfl ?_
        refine q_if_le 63 dX12_readAlp_54 (by decide) (fun h5132 => ?_) (fun h5132 => ?_)
        · skip
          refine tr_aload_n dX12_readAlp_63 rfl ?_
          refine tr_getR dX12_readAlp_64 fl12_188 (kR15 hS5115.1 ta0) d2 ?_
          refine tr_getR dX12_readAlp_67 fl12_260 (kR14 hS5115.1 ta1) d67 ?_
          refine tr_iload_n dX12_readAlp_70 rfl ?_
          refine tr_aload_n dX12_readAlp_71 rfl ?_
          refine q_iconst dX12_readAlp_72 (by decide) ?_
          intro v5133 h5134
          refine q_bipush dX12_readAlp_73 (by decide +kernel) ?_
          intro v5135 h5136
          refine q_callVi hE (M' := mX12_readWhole) (as := [_, _]) dX12_readAlp_75 lk12_161 inX12_readWhole seX12_readWhole myX12_readWhole (by decide) ⟨by decide, by decide⟩ rfl (kR15 hS5115.1 ta0) (Nat.le_of_ble_eq_true rfl) rfl rfl (by decide) (by decide) (k_X12_readWhole hS5115.1 ta0) ?_
          rintro v5141 cn' K' N' I5137 R5138 L5139 ⟨rfl, rfl, rfl, rfl, g5140, p5142, w5143, -⟩
          have hS5144 := hS5115.tr g5140 (by decide +kernel) (by decide +kernel)
          have c5145 : I5137 a1 0 = v29 := (g5140.cell ta1 (by decide +kernel)).trans c5116
          have c5146 : I5137 a1 1 = v33 := (g5140.cell ta1 (by decide +kernel)).trans c5117
          have b5147 : 0 ≤ v5141.toInt ∧ v5141.toInt ≤ 99 := by omega
          clear p5142
          have hO5148 : FrO 14 a1 T I0 I5137 := hO5118.st g5140 (by decide +kernel)
          have ov5149 := w5143.over (by rw [c5121]; omega)
          obtain ⟨v5150, c5151⟩ : ∃ v, I5137 a0 9 = v := ⟨_, rfl⟩
          have b5152 := iv15_9 hS5144.1 ta0 c5151
          obtain ⟨v5153, c5154⟩ : ∃ v, I5137 a0 13 = v := ⟨_, rfl⟩
          obtain ⟨v5155, c5156⟩ : ∃ v, I5137 a0 14 = v := ⟨_, rfl⟩
          (try rw [c5151] at ov5149)
          (try rw [c5154] at ov5149)
          (try rw [c5156] at ov5149)
          (try rw [c5121] at ov5149)
          (try rw [c5124] at ov5149)
          (try rw [c5126] at ov5149)
          refine q_iast dX12_readAlp_78 (kR53 hS5144.1 ta66) (ti_in (nR53 hS5144.1 ta66) (by omega) (by omega)) hS5144 ta66 (iokF rfl) rfl (by rfl) ?_
          intro I5157 hS5158 e5160 f5159
          have c5161 : I5157 a1 0 = v29 := (f5159 _ _ (fun q => by have z := ta1; rw [q.1, ta66] at z; exact absurd z (by decide))).trans c5145
          have c5162 : I5157 a1 1 = v33 := (f5159 _ _ (fun q => by have z := ta1; rw [q.1, ta66] at z; exact absurd z (by decide))).trans c5146
          have c5163 : I5157 a0 9 = v5150 := (f5159 _ _ (fun q => by have z := ta0; rw [q.1, ta66] at z; exact absurd z (by decide))).trans c5151
          have c5164 : I5157 a0 13 = v5153 := (f5159 _ _ (fun q => by have z := ta0; rw [q.1, ta66] at z; exact absurd z (by decide))).trans c5154
          have c5165 : I5157 a0 14 = v5155 := (f5159 _ _ (fun q => by have z := ta0; rw [q.1, ta66] at z; exact absurd z (by decide))).trans c5156
          have hO5166 : FrO 14 a1 T I0 I5157 := hO5148.put f5159 ta66 (Or.inl (by decide))
          refine q_iincE dX12_readAlp_79 rfl (by decide) (by decide) (by intros; omega) ?_
          intro v5167 h5168
          refine tr_goto 48 dX12_readAlp_82 (by decide) ?_
          refine tr_iload_n dX12_readAlp_48 rfl ?_
          refine q_iconst dX12_readAlp_49 (by decide) ?_
          intro v5169 h5170
          refine q_icmp_ge 85 dX12_readAlp_50 (by decide) (fun h5171 => ?_) (fun h5171 => ?_)
          · skip
            exfalso; omega
          · skip
            refine tr_iload_n dX12_readAlp_53 rfl ?_
            refine q_if_le 63 dX12_readAlp_54 (by decide) (fun h5172 => ?_) (fun h5172 => ?_)
            · skip
              exfalso; omega
            · skip
              refine tr_aload_n dX12_readAlp_57 rfl ?_
              refine q_bipush dX12_readAlp_58 (by decide +kernel) ?_
              intro v5173 h5174
              refine q_callVv hE (M' := mX12_needsSign) (as := [_]) dX12_readAlp_60 lk12_257 inX12_needsSign seX12_needsSign myX12_needsSign (by decide) ⟨by decide, by decide⟩ rfl (kR15 hS5158.1 ta0) (Nat.le_of_ble_eq_true rfl) rfl rfl (by decide) (by decide) (k_X12_needsSign hS5158.1 ta0) ?_
              rintro cn' K' N' I5175 R5176 L5177 ⟨rfl, rfl, rfl, rfl, g5178, w5180, -⟩
              have hS5181 := hS5158.tr g5178 (by decide +kernel) (by decide +kernel)
              have c5182 : I5175 a1 0 = v29 := (g5178.cell ta1 (by decide +kernel)).trans c5161
              have c5183 : I5175 a1 1 = v33 := (g5178.cell ta1 (by decide +kernel)).trans c5162
              have hO5184 : FrO 14 a1 T I0 I5175 := hO5166.st g5178 (by decide +kernel)
              have ov5185 := w5180.over (by rw [c5163]; omega)
              obtain ⟨v5186, c5187⟩ : ∃ v, I5175 a0 9 = v := ⟨_, rfl⟩
              have b5188 := iv15_9 hS5181.1 ta0 c5187
              obtain ⟨v5189, c5190⟩ : ∃ v, I5175 a0 13 = v := ⟨_, rfl⟩
              obtain ⟨v5191, c5192⟩ : ∃ v, I5175 a0 14 = v := ⟨_, rfl⟩
              (try rw [c5187] at ov5185)
              (try rw [c5190] at ov5185)
              (try rw [c5192] at ov5185)
              (try rw [c5163] at ov5185)
              (try rw [c5164] at ov5185)
              (try rw [c5165] at ov5185)
              refine tr_aload_n dX12_readAlp_63 rfl ?_
              refine tr_getR dX12_readAlp_64 fl12_188 (kR15 hS5181.1 ta0) d2 ?_
              refine tr_getR dX12_readAlp_67 fl12_260 (kR14 hS5181.1 ta1) d67 ?_
              refine tr_iload_n dX12_readAlp_70 rfl ?_
              refine tr_aload_n dX12_readAlp_71 rfl ?_
              refine q_iconst dX12_readAlp_72 (by decide) ?_
              intro v5193 h5194
              refine q_bipush dX12_readAlp_73 (by decide +kernel) ?_
              intro v5195 h5196
              refine q_callVi hE (M' := mX12_readWhole) (as := [_, _]) dX12_readAlp_75 lk12_161 inX12_readWhole seX12_readWhole myX12_readWhole (by decide) ⟨by decide, by decide⟩ rfl (kR15 hS5181.1 ta0) (Nat.le_of_ble_eq_true rfl) rfl rfl (by decide) (by decide) (k_X12_readWhole hS5181.1 ta0) ?_
              rintro v5201 cn' K' N' I5197 R5198 L5199 ⟨rfl, rfl, rfl, rfl, g5200, p5202, w5203, -⟩
              have hS5204 := hS5181.tr g5200 (by decide +kernel) (by decide +kernel)
              have c5205 : I5197 a1 0 = v29 := (g5200.cell ta1 (by decide +kernel)).trans c5182
              have c5206 : I5197 a1 1 = v33 := (g5200.cell ta1 (by decide +kernel)).trans c5183
              have b5207 : 0 ≤ v5201.toInt ∧ v5201.toInt ≤ 99 := by omega
              clear p5202
              have hO5208 : FrO 14 a1 T I0 I5197 := hO5184.st g5200 (by decide +kernel)
              have ov5209 := w5203.over (by rw [c5187]; omega)
              obtain ⟨v5210, c5211⟩ : ∃ v, I5197 a0 9 = v := ⟨_, rfl⟩
              have b5212 := iv15_9 hS5204.1 ta0 c5211
              obtain ⟨v5213, c5214⟩ : ∃ v, I5197 a0 13 = v := ⟨_, rfl⟩
              obtain ⟨v5215, c5216⟩ : ∃ v, I5197 a0 14 = v := ⟨_, rfl⟩
              (try rw [c5211] at ov5209)
              (try rw [c5214] at ov5209)
              (try rw [c5216] at ov5209)
              (try rw [c5187] at ov5209)
              (try rw [c5190] at ov5209)
              (try rw [c5192] at ov5209)
              refine q_iast dX12_readAlp_78 (kR53 hS5204.1 ta66) (ti_in (nR53 hS5204.1 ta66) (by omega) (by omega)) hS5204 ta66 (iokF rfl) rfl (by rfl) ?_
              intro I5217 hS5218 e5220 f5219
              have c5221 : I5217 a1 0 = v29 := (f5219 _ _ (fun q => by have z := ta1; rw [q.1, ta66] at z; exact absurd z (by decide))).trans c5205
              have c5222 : I5217 a1 1 = v33 := (f5219 _ _ (fun q => by have z := ta1; rw [q.1, ta66] at z; exact absurd z (by decide))).trans c5206
              have c5223 : I5217 a0 9 = v5210 := (f5219 _ _ (fun q => by have z := ta0; rw [q.1, ta66] at z; exact absurd z (by decide))).trans c5211
              have c5224 : I5217 a0 13 = v5213 := (f5219 _ _ (fun q => by have z := ta0; rw [q.1, ta66] at z; exact absurd z (by decide))).trans c5214
              have c5225 : I5217 a0 14 = v5215 := (f5219 _ _ (fun q => by have z := ta0; rw [q.1, ta66] at z; exact absurd z (by decide))).trans c5216
              have hO5226 : FrO 14 a1 T I0 I5217 := hO5208.put f5219 ta66 (Or.inl (by decide))
              refine q_iincE dX12_readAlp_79 rfl (by decide) (by decide) (by intros; omega) ?_
              intro v5227 h5228
              refine tr_goto 48 dX12_readAlp_82 (by decide) ?_
              refine tr_iload_n dX12_readAlp_48 rfl ?_
              refine q_iconst dX12_readAlp_49 (by decide) ?_
              intro v5229 h5230
              refine q_icmp_ge 85 dX12_readAlp_50 (by decide) (fun h5231 => ?_) (fun h5231 => ?_)
              · skip
                exfalso; omega
              · skip
                refine tr_iload_n dX12_readAlp_53 rfl ?_
                refine q_if_le 63 dX12_readAlp_54 (by decide) (fun h5232 => ?_) (fun h5232 => ?_)
                · skip
                  exfalso; omega
                · skip
                  refine tr_aload_n dX12_readAlp_57 rfl ?_
                  refine q_bipush dX12_readAlp_58 (by decide +kernel) ?_
                  intro v5233 h5234
                  refine q_callVv hE (M' := mX12_needsSign) (as := [_]) dX12_readAlp_60 lk12_257 inX12_needsSign seX12_needsSign myX12_needsSign (by decide) ⟨by decide, by decide⟩ rfl (kR15 hS5218.1 ta0) (Nat.le_of_ble_eq_true rfl) rfl rfl (by decide) (by decide) (k_X12_needsSign hS5218.1 ta0) ?_
                  rintro cn' K' N' I5235 R5236 L5237 ⟨rfl, rfl, rfl, rfl, g5238, w5240, -⟩
                  have hS5241 := hS5218.tr g5238 (by decide +kernel) (by decide +kernel)
                  have c5242 : I5235 a1 0 = v29 := (g5238.cell ta1 (by decide +kernel)).trans c5221
                  have c5243 : I5235 a1 1 = v33 := (g5238.cell ta1 (by decide +kernel)).trans c5222
                  have hO5244 : FrO 14 a1 T I0 I5235 := hO5226.st g5238 (by decide +kernel)
                  have ov5245 := w5240.over (by rw [c5223]; omega)
                  obtain ⟨v5246, c5247⟩ : ∃ v, I5235 a0 9 = v := ⟨_, rfl⟩
                  have b5248 := iv15_9 hS5241.1 ta0 c5247
                  obtain ⟨v5249, c5250⟩ : ∃ v, I5235 a0 13 = v := ⟨_, rfl⟩
                  obtain ⟨v5251, c5252⟩ : ∃ v, I5235 a0 14 = v := ⟨_, rfl⟩
                  (try rw [c5247] at ov5245)
                  (try rw [c5250] at ov5245)
                  (try rw [c5252] at ov5245)
                  (try rw [c5223] at ov5245)
                  (try rw [c5224] at ov5245)
                  (try rw [c5225] at ov5245)
                  refine tr_aload_n dX12_readAlp_63 rfl ?_
                  refine tr_getR dX12_readAlp_64 fl12_188 (kR15 hS5241.1 ta0) d2 ?_
                  refine tr_getR dX12_readAlp_67 fl12_260 (kR14 hS5241.1 ta1) d67 ?_
                  refine tr_iload_n dX12_readAlp_70 rfl ?_
                  refine tr_aload_n dX12_readAlp_71 rfl ?_
                  refine q_iconst dX12_readAlp_72 (by decide) ?_
                  intro v5253 h5254
                  refine q_bipush dX12_readAlp_73 (by decide +kernel) ?_
                  intro v5255 h5256
                  refine q_callVi hE (M' := mX12_readWhole) (as := [_, _]) dX12_readAlp_75 lk12_161 inX12_readWhole seX12_readWhole myX12_readWhole (by decide) ⟨by decide, by decide⟩ rfl (kR15 hS5241.1 ta0) (Nat.le_of_ble_eq_true rfl) rfl rfl (by decide) (by decide) (k_X12_readWhole hS5241.1 ta0) ?_
                  rintro v5261 cn' K' N' I5257 R5258 L5259 ⟨rfl, rfl, rfl, rfl, g5260, p5262, w5263, -⟩
                  have hS5264 := hS5241.tr g5260 (by decide +kernel) (by decide +kernel)
                  have c5265 : I5257 a1 0 = v29 := (g5260.cell ta1 (by decide +kernel)).trans c5242
                  have c5266 : I5257 a1 1 = v33 := (g5260.cell ta1 (by decide +kernel)).trans c5243
                  have b5267 : 0 ≤ v5261.toInt ∧ v5261.toInt ≤ 99 := by omega
                  clear p5262
                  have hO5268 : FrO 14 a1 T I0 I5257 := hO5244.st g5260 (by decide +kernel)
                  have ov5269 := w5263.over (by rw [c5247]; omega)
                  obtain ⟨v5270, c5271⟩ : ∃ v, I5257 a0 9 = v := ⟨_, rfl⟩
                  have b5272 := iv15_9 hS5264.1 ta0 c5271
                  obtain ⟨v5273, c5274⟩ : ∃ v, I5257 a0 13 = v := ⟨_, rfl⟩
                  obtain ⟨v5275, c5276⟩ : ∃ v, I5257 a0 14 = v := ⟨_, rfl⟩
                  (try rw [c5271] at ov5269)
                  (try rw [c5274] at ov5269)
                  (try rw [c5276] at ov5269)
                  (try rw [c5247] at ov5269)
                  (try rw [c5250] at ov5269)
                  (try rw [c5252] at ov5269)
                  refine q_iast dX12_readAlp_78 (kR53 hS5264.1 ta66) (ti_in (nR53 hS5264.1 ta66) (by omega) (by omega)) hS5264 ta66 (iokF rfl) rfl (by rfl) ?_
                  intro I5277 hS5278 e5280 f5279
                  have c5281 : I5277 a1 0 = v29 := (f5279 _ _ (fun q => by have z := ta1; rw [q.1, ta66] at z; exact absurd z (by decide))).trans c5265
                  have c5282 : I5277 a1 1 = v33 := (f5279 _ _ (fun q => by have z := ta1; rw [q.1, ta66] at z; exact absurd z (by decide))).trans c5266
                  have c5283 : I5277 a0 9 = v5270 := (f5279 _ _ (fun q => by have z := ta0; rw [q.1, ta66] at z; exact absurd z (by decide))).trans c5271
                  have c5284 : I5277 a0 13 = v5273 := (f5279 _ _ (fun q => by have z := ta0; rw [q.1, ta66] at z; exact absurd z (by decide))).trans c5274
                  have c5285 : I5277 a0 14 = v5275 := (f5279 _ _ (fun q => by have z := ta0; rw [q.1, ta66] at z; exact absurd z (by decide))).trans c5276
                  have hO5286 : FrO 14 a1 T I0 I5277 := hO5268.put f5279 ta66 (Or.inl (by decide))
                  refine q_iincE dX12_readAlp_79 rfl (by decide) (by decide) (by intros; omega) ?_
                  intro v5287 h5288
                  refine tr_goto 48 dX12_readAlp_82 (by decide) ?_
                  refine tr_iload_n dX12_readAlp_48 rfl ?_
                  refine q_iconst dX12_readAlp_49 (by decide) ?_
                  intro v5289 h5290
                  refine q_icmp_ge 85 dX12_readAlp_50 (by decide) (fun h5291 => ?_) (fun h5291 => ?_)
                  · skip
                    exfalso; omega
                  · skip
                    refine tr_iload_n dX12_readAlp_53 rfl ?_
                    refine q_if_le 63 dX12_readAlp_54 (by decide) (fun h5292 => ?_) (fun h5292 => ?_)
                    · skip
                      exfalso; omega
                    · skip
                      refine tr_aload_n dX12_readAlp_57 rfl ?_
                      refine q_bipush dX12_readAlp_58 (by decide +kernel) ?_
                      intro v5293 h5294
                      refine q_callVv hE (M' := mX12_needsSign) (as := [_]) dX12_readAlp_60 lk12_257 inX12_needsSign seX12_needsSign myX12_needsSign (by decide) ⟨by decide, by decide⟩ rfl (kR15 hS5278.1 ta0) (Nat.le_of_ble_eq_true rfl) rfl rfl (by decide) (by decide) (k_X12_needsSign hS5278.1 ta0) ?_
                      rintro cn' K' N' I5295 R5296 L5297 ⟨rfl, rfl, rfl, rfl, g5298, w5300, -⟩
                      have hS5301 := hS5278.tr g5298 (by decide +kernel) (by decide +kernel)
                      have c5302 : I5295 a1 0 = v29 := (g5298.cell ta1 (by decide +kernel)).trans c5281
                      have c5303 : I5295 a1 1 = v33 := (g5298.cell ta1 (by decide +kernel)).trans c5282
                      have hO5304 : FrO 14 a1 T I0 I5295 := hO5286.st g5298 (by decide +kernel)
                      have ov5305 := w5300.over (by rw [c5283]; omega)
                      obtain ⟨v5306, c5307⟩ : ∃ v, I5295 a0 9 = v := ⟨_, rfl⟩
                      have b5308 := iv15_9 hS5301.1 ta0 c5307
                      obtain ⟨v5309, c5310⟩ : ∃ v, I5295 a0 13 = v := ⟨_, rfl⟩
                      obtain ⟨v5311, c5312⟩ : ∃ v, I5295 a0 14 = v := ⟨_, rfl⟩
                      (try rw [c5307] at ov5305)
                      (try rw [c5310] at ov5305)
                      (try rw [c5312] at ov5305)
                      (try rw [c5283] at ov5305)
                      (try rw [c5284] at ov5305)
                      (try rw [c5285] at ov5305)
                      refine tr_aload_n dX12_readAlp_63 rfl ?_
                      refine tr_getR dX12_readAlp_64 fl12_188 (kR15 hS5301.1 ta0) d2 ?_
                      refine tr_getR dX12_readAlp_67 fl12_260 (kR14 hS5301.1 ta1) d67 ?_
                      refine tr_iload_n dX12_readAlp_70 rfl ?_
                      refine tr_aload_n dX12_readAlp_71 rfl ?_
                      refine q_iconst dX12_readAlp_72 (by decide) ?_
                      intro v5313 h5314
                      refine q_bipush dX12_readAlp_73 (by decide +kernel) ?_
                      intro v5315 h5316
                      refine q_callVi hE (M' := mX12_readWhole) (as := [_, _]) dX12_readAlp_75 lk12_161 inX12_readWhole seX12_readWhole myX12_readWhole (by decide) ⟨by decide, by decide⟩ rfl (kR15 hS5301.1 ta0) (Nat.le_of_ble_eq_true rfl) rfl rfl (by decide) (by decide) (k_X12_readWhole hS5301.1 ta0) ?_
                      rintro v5321 cn' K' N' I5317 R5318 L5319 ⟨rfl, rfl, rfl, rfl, g5320, p5322, w5323, -⟩
                      have hS5324 := hS5301.tr g5320 (by decide +kernel) (by decide +kernel)
                      have c5325 : I5317 a1 0 = v29 := (g5320.cell ta1 (by decide +kernel)).trans c5302
                      have c5326 : I5317 a1 1 = v33 := (g5320.cell ta1 (by decide +kernel)).trans c5303
                      have b5327 : 0 ≤ v5321.toInt ∧ v5321.toInt ≤ 99 := by omega
                      clear p5322
                      have hO5328 : FrO 14 a1 T I0 I5317 := hO5304.st g5320 (by decide +kernel)
                      have ov5329 := w5323.over (by rw [c5307]; omega)
                      obtain ⟨v5330, c5331⟩ : ∃ v, I5317 a0 9 = v := ⟨_, rfl⟩
                      have b5332 := iv15_9 hS5324.1 ta0 c5331
                      obtain ⟨v5333, c5334⟩ : ∃ v, I5317 a0 13 = v := ⟨_, rfl⟩
                      obtain ⟨v5335, c5336⟩ : ∃ v, I5317 a0 14 = v := ⟨_, rfl⟩
                      (try rw [c5331] at ov5329)
                      (try rw [c5334] at ov5329)
                      (try rw [c5336] at ov5329)
                      (try rw [c5307] at ov5329)
                      (try rw [c5310] at ov5329)
                      (try rw [c5312] at ov5329)
                      refine q_iast dX12_readAlp_78 (kR53 hS5324.1 ta66) (ti_in (nR53 hS5324.1 ta66) (by omega) (by omega)) hS5324 ta66 (iokF rfl) rfl (by rfl) ?_
                      intro I5337 hS5338 e5340 f5339
                      have c5341 : I5337 a1 0 = v29 := (f5339 _ _ (fun q => by have z := ta1; rw [q.1, ta66] at z; exact absurd z (by decide))).trans c5325
                      have c5342 : I5337 a1 1 = v33 := (f5339 _ _ (fun q => by have z := ta1; rw [q.1, ta66] at z; exact absurd z (by decide))).trans c5326
                      have c5343 : I5337 a0 9 = v5330 := (f5339 _ _ (fun q => by have z := ta0; rw [q.1, ta66] at z; exact absurd z (by decide))).trans c5331
                      have c5344 : I5337 a0 13 = v5333 := (f5339 _ _ (fun q => by have z := ta0; rw [q.1, ta66] at z; exact absurd z (by decide))).trans c5334
                      have c5345 : I5337 a0 14 = v5335 := (f5339 _ _ (fun q => by have z := ta0; rw [q.1, ta66] at z; exact absurd z (by decide))).trans c5336
                      have hO5346 : FrO 14 a1 T I0 I5337 := hO5328.put f5339 ta66 (Or.inl (by decide))
                      refine q_iincE dX12_readAlp_79 rfl (by decide) (by decide) (by intros; omega) ?_
                      intro v5347 h5348
                      refine tr_goto 48 dX12_readAlp_82 (by decide) ?_
                      refine tr_iload_n dX12_readAlp_48 rfl ?_
                      refine q_iconst dX12_readAlp_49 (by decide) ?_
                      intro v5349 h5350
                      refine q_icmp_ge 85 dX12_readAlp_50 (by decide) (fun h5351 => ?_) (fun h5351 => ?_)
                      · skip
                        exfalso; omega
                      · skip
                        refine tr_iload_n dX12_readAlp_53 rfl ?_
                        refine q_if_le 63 dX12_readAlp_54 (by decide) (fun h5352 => ?_) (fun h5352 => ?_)
                        · skip
                          exfalso; omega
                        · skip
                          refine tr_aload_n dX12_readAlp_57 rfl ?_
                          refine q_bipush dX12_readAlp_58 (by decide +kernel) ?_
                          intro v5353 h5354
                          refine q_callVv hE (M' := mX12_needsSign) (as := [_]) dX12_readAlp_60 lk12_257 inX12_needsSign seX12_needsSign myX12_needsSign (by decide) ⟨by decide, by decide⟩ rfl (kR15 hS5338.1 ta0) (Nat.le_of_ble_eq_true rfl) rfl rfl (by decide) (by decide) (k_X12_needsSign hS5338.1 ta0) ?_
                          rintro cn' K' N' I5355 R5356 L5357 ⟨rfl, rfl, rfl, rfl, g5358, w5360, -⟩
                          have hS5361 := hS5338.tr g5358 (by decide +kernel) (by decide +kernel)
                          have c5362 : I5355 a1 0 = v29 := (g5358.cell ta1 (by decide +kernel)).trans c5341
                          have c5363 : I5355 a1 1 = v33 := (g5358.cell ta1 (by decide +kernel)).trans c5342
                          have hO5364 : FrO 14 a1 T I0 I5355 := hO5346.st g5358 (by decide +kernel)
                          have ov5365 := w5360.over (by rw [c5343]; omega)
                          obtain ⟨v5366, c5367⟩ : ∃ v, I5355 a0 9 = v := ⟨_, rfl⟩
                          have b5368 := iv15_9 hS5361.1 ta0 c5367
                          obtain ⟨v5369, c5370⟩ : ∃ v, I5355 a0 13 = v := ⟨_, rfl⟩
                          obtain ⟨v5371, c5372⟩ : ∃ v, I5355 a0 14 = v := ⟨_, rfl⟩
                          (try rw [c5367] at ov5365)
                          (try rw [c5370] at ov5365)
                          (try rw [c5372] at ov5365)
                          (try rw [c5343] at ov5365)
                          (try rw [c5344] at ov5365)
                          (try rw [c5345] at ov5365)
                          refine tr_aload_n dX12_readAlp_63 rfl ?_
                          refine tr_getR dX12_readAlp_64 fl12_188 (kR15 hS5361.1 ta0) d2 ?_
                          refine tr_getR dX12_readAlp_67 fl12_260 (kR14 hS5361.1 ta1) d67 ?_
                          refine tr_iload_n dX12_readAlp_70 rfl ?_
                          refine tr_aload_n dX12_readAlp_71 rfl ?_
                          refine q_iconst dX12_readAlp_72 (by decide) ?_
                          intro v5373 h5374
                          refine q_bipush dX12_readAlp_73 (by decide +kernel) ?_
                          intro v5375 h5376
                          refine q_callVi hE (M' := mX12_readWhole) (as := [_, _]) dX12_readAlp_75 lk12_161 inX12_readWhole seX12_readWhole myX12_readWhole (by decide) ⟨by decide, by decide⟩ rfl (kR15 hS5361.1 ta0) (Nat.le_of_ble_eq_true rfl) rfl rfl (by decide) (by decide) (k_X12_readWhole hS5361.1 ta0) ?_
                          rintro v5381 cn' K' N' I5377 R5378 L5379 ⟨rfl, rfl, rfl, rfl, g5380, p5382, w5383, -⟩
                          have hS5384 := hS5361.tr g5380 (by decide +kernel) (by decide +kernel)
                          have c5385 : I5377 a1 0 = v29 := (g5380.cell ta1 (by decide +kernel)).trans c5362
                          have c5386 : I5377 a1 1 = v33 := (g5380.cell ta1 (by decide +kernel)).trans c5363
                          have b5387 : 0 ≤ v5381.toInt ∧ v5381.toInt ≤ 99 := by omega
                          clear p5382
                          have hO5388 : FrO 14 a1 T I0 I5377 := hO5364.st g5380 (by decide +kernel)
                          have ov5389 := w5383.over (by rw [c5367]; omega)
                          obtain ⟨v5390, c5391⟩ : ∃ v, I5377 a0 9 = v := ⟨_, rfl⟩
                          have b5392 := iv15_9 hS5384.1 ta0 c5391
                          obtain ⟨v5393, c5394⟩ : ∃ v, I5377 a0 13 = v := ⟨_, rfl⟩
                          obtain ⟨v5395, c5396⟩ : ∃ v, I5377 a0 14 = v := ⟨_, rfl⟩
                          (try rw [c5391] at ov5389)
                          (try rw [c5394] at ov5389)
                          (try rw [c5396] at ov5389)
                          (try rw [c5367] at ov5389)
                          (try rw [c5370] at ov5389)
                          (try rw [c5372] at ov5389)
                          refine q_iast dX12_readAlp_78 (kR53 hS5384.1 ta66) (ti_in (nR53 hS5384.1 ta66) (by omega) (by omega)) hS5384 ta66 (iokF rfl) rfl (by rfl) ?_
                          intro I5397 hS5398 e5400 f5399
                          have c5401 : I5397 a1 0 = v29 := (f5399 _ _ (fun q => by have z := ta1; rw [q.1, ta66] at z; exact absurd z (by decide))).trans c5385
                          have c5402 : I5397 a1 1 = v33 := (f5399 _ _ (fun q => by have z := ta1; rw [q.1, ta66] at z; exact absurd z (by decide))).trans c5386
                          have c5403 : I5397 a0 9 = v5390 := (f5399 _ _ (fun q => by have z := ta0; rw [q.1, ta66] at z; exact absurd z (by decide))).trans c5391
                          have c5404 : I5397 a0 13 = v5393 := (f5399 _ _ (fun q => by have z := ta0; rw [q.1, ta66] at z; exact absurd z (by decide))).trans c5394
                          have c5405 : I5397 a0 14 = v5395 := (f5399 _ _ (fun q => by have z := ta0; rw [q.1, ta66] at z; exact absurd z (by decide))).trans c5396
                          have hO5406 : FrO 14 a1 T I0 I5397 := hO5388.put f5399 ta66 (Or.inl (by decide))
                          refine q_iincE dX12_readAlp_79 rfl (by decide) (by decide) (by intros; omega) ?_
                          intro v5407 h5408
                          refine tr_goto 48 dX12_readAlp_82 (by decide) ?_
                          refine tr_iload_n dX12_readAlp_48 rfl ?_
                          refine q_iconst dX12_readAlp_49 (by decide) ?_
                          intro v5409 h5410
                          refine q_icmp_ge 85 dX12_readAlp_50 (by decide) (fun h5411 => ?_) (fun h5411 => ?_)
                          · skip
                            refine tr_aload_n dX12_readAlp_85 rfl ?_
                            refine q_getI dX12_readAlp_86 fl12_99 (kR15 hS5398.1 ta0) c5403 ?_
                            refine q_iconst dX12_readAlp_89 (by decide) ?_
                            intro v5412 h5413
                            refine q_icmp_ne 94 dX12_readAlp_90 (by decide) (fun h5414 => ?_) (fun h5414 => ?_)
                            · skip
                              exfalso; omega
                            · skip
                              have eF := hF.eq
                              have eP := hP.eq
                              obtain ⟨v5415, c5416⟩ : ∃ v, I5397 a0 10 = v := ⟨_, rfl⟩
                              have b5417 := iv15_10 hS5398.1 ta0 c5416
                              obtain ⟨v5418, c5419⟩ : ∃ v, I5397 a0 11 = v := ⟨_, rfl⟩
                              obtain ⟨y5420, c5421⟩ : ∃ v, L5379 a0 15 = v := ⟨_, rfl⟩
                              obtain ⟨v5422, c5423⟩ : ∃ v, I5397 a0 12 = v := ⟨_, rfl⟩
                              obtain ⟨v5424, c5425⟩ : ∃ v, I5397 a0 8 = v := ⟨_, rfl⟩
                              have b5426 := iv15_8 hS5398.1 ta0 c5425
                              exact tr_vret hZ dX12_readAlp_93 rfl (by decide) (by decide) ⟨rfl, rfl, rfl, rfl, rfl, hS5398, (fun b hb => (Option.some.inj (d2.symm.trans hb)) ▸ (((((((((((((((((((FrM.rf (R := R0) (b := a1) (T := T)).st g74 (by decide +kernel)).st g126 (by decide +kernel)).st g5092 (by decide +kernel)).st g5112 (by decide +kernel)).st g5140 (by decide +kernel)).pu f5159 (by decide) (by decide) d67).st g5178 (by decide +kernel)).st g5200 (by decide +kernel)).pu f5219 (by decide) (by decide) d67).st g5238 (by decide +kernel)).st g5260 (by decide +kernel)).pu f5279 (by decide) (by decide) d67).st g5298 (by decide +kernel)).st g5320 (by decide +kernel)).pu f5339 (by decide) (by decide) d67).st g5358 (by decide +kernel)).st g5380 (by decide +kernel)).pu f5399 (by decide) (by decide) d67)), (fun dr hd => (Option.some.inj (d2.symm.trans hd)) ▸ hO5406), (Or.inr (⟨(by (try rw [w109]); first | done | with_reducible assumption | omega), (by (try rw [w109]); (try rw [c5403]); first | done | with_reducible assumption | omega), (by (try rw [w109]); (try rw [c5404]); first | done | with_reducible assumption | omega), (by (try rw [w109]); (try rw [c5405]); first | done | with_reducible assumption | omega), trivial⟩)), trivial⟩
                          · skip
                            exfalso; omega
        · skip
          exfalso; omega
  · skip
    have p5427 := p61
    unfold Q7M at p5427
    replace hF := hF.pos (by omega)
    replace hP := hP.pos (by omega)
    refine tr_aload_n dX12_readAlp_10 rfl ?_
    refine q_iconst dX12_readAlp_11 (by decide) ?_
    intro v5428 h5429
    refine q_callVv hE (M' := mX12_flaw) (as := [_]) dX12_readAlp_12 lk12_145 inX12_flaw seX12_flaw myX12_flaw (by decide) ⟨by decide, by decide⟩ rfl (kR15 hS0.1 ta0) (Nat.le_of_ble_eq_true rfl) rfl rfl (by decide) (by decide) (fk_X12_flaw hS0.1  ta0 (by omega) (by (try rw [c4]); first | done | with_reducible assumption | omega)) ?_
    rintro cn' K' N' I5430 R5431 L5432 ⟨rfl, rfl, rfl, rfl, rfl, g5433, p5436, p5437, p5438, -⟩
    have hM5439 : NmM I5430 R0 L0 a1 gQ := NmM.kpS hM0 g5433 hS0.1 ta1 (by decide +kernel) (by decide +kernel)
    have hS5440 := hS0.tr g5433 (by decide +kernel) (by decide +kernel)
    have c5441 : I5430 a0 10 = v8 := (g5433.cell ta0 (by decide +kernel)).trans c9
    have c5442 : I5430 a0 11 = v12 := (g5433.cell ta0 (by decide +kernel)).trans c13
    have c5443 : I5430 a0 12 = v18 := (g5433.cell ta0 (by decide +kernel)).trans c19
    have c5444 : I5430 a0 8 = v21 := (g5433.cell ta0 (by decide +kernel)).trans c22
    have c5445 : I5430 a1 0 = v29 := (g5433.cell ta1 (by decide +kernel)).trans c30
    have c5446 : I5430 a1 1 = v33 := (g5433.cell ta1 (by decide +kernel)).trans c34
    have hO5447 : FrO 14 a1 T I0 I5430 := hO0.st g5433 (by decide +kernel)
    obtain ⟨v5448, c5449⟩ : ∃ v, I5430 a0 9 = v := ⟨_, rfl⟩
    have b5450 := iv15_9 hS5440.1 ta0 c5449
    rw [c5449] at p5436
    obtain ⟨v5451, c5452⟩ : ∃ v, I5430 a0 13 = v := ⟨_, rfl⟩
    rw [c5452] at p5437
    obtain ⟨v5453, c5454⟩ : ∃ v, I5430 a0 14 = v := ⟨_, rfl⟩
    rw [c5454] at p5438
    rw [c9] at p5438
    refine tr_aload_n dX12_readAlp_15 rfl ?_
    refine q_callVv hE (M' := mX12_goesOn) (as := []) dX12_readAlp_16 lk12_142 inX12_goesOn seX12_goesOn myX12_goesOn (by decide) ⟨by decide, by decide⟩ rfl (kR15 hS5440.1 ta0) (Nat.le_of_ble_eq_true rfl) rfl rfl (by decide) (by decide) (k_X12_goesOn hS5440.1 ta0) ?_
    rintro cn' K' N' I5455 R5456 L5457 ⟨rfl, rfl, rfl, rfl, g5458, p5460, p5461, p5462, w5463, -⟩
    have hS5464 := hS5440.tr g5458 (by decide +kernel) (by decide +kernel)
    have c5465 : I5455 a1 0 = v29 := (g5458.cell ta1 (by decide +kernel)).trans c5445
    have c5466 : I5455 a1 1 = v33 := (g5458.cell ta1 (by decide +kernel)).trans c5446
    have c5467 : I5455 a0 13 = v5451 := (g5458.cell ta0 (by decide +kernel)).trans c5452
    have c5468 : I5455 a0 14 = v5453 := (g5458.cell ta0 (by decide +kernel)).trans c5454
    obtain ⟨v5469, c5470⟩ : ∃ v, I5455 a0 9 = v := ⟨_, rfl⟩
    have b5471 := iv15_9 hS5464.1 ta0 c5470
    rw [c5449] at p5460
    rw [c5470] at p5460
    rw [c5449] at p5461
    rw [c5470] at p5461
    obtain ⟨v5472, c5473⟩ : ∃ v, I5455 a0 8 = v := ⟨_, rfl⟩
    have b5474 := iv15_8 hS5464.1 ta0 c5473
    rw [c5473] at p5462
    rw [c5444] at p5462
    rw [c5467] at p5462
    rw [c5452] at p5462
    have hO5475 : FrO 14 a1 T I0 I5455 := hO5447.st g5458 (by decide +kernel)
    have ov5476 := w5463.over (by rw [c5449]; omega)
    obtain ⟨v5477, c5478⟩ : ∃ v, I5455 a0 9 = v := ⟨_, rfl⟩
    have b5479 := iv15_9 hS5464.1 ta0 c5478
    obtain ⟨v5480, c5481⟩ : ∃ v, I5455 a0 13 = v := ⟨_, rfl⟩
    obtain ⟨v5482, c5483⟩ : ∃ v, I5455 a0 14 = v := ⟨_, rfl⟩
    (try rw [c5478] at ov5476)
    (try rw [c5481] at ov5476)
    (try rw [c5483] at ov5476)
    (try rw [c5449] at ov5476)
    (try rw [c5452] at ov5476)
    (try rw [c5454] at ov5476)
    refine tr_aload_n dX12_readAlp_19 rfl ?_
    refine tr_ldcS dX12_readAlp_20 ld12_248 ?_
    refine q_bipush dX12_readAlp_22 (by decide +kernel) ?_
    intro v5484 h5485
    refine q_sipush dX12_readAlp_24 (by decide +kernel) ?_
    intro v5486 h5487
    refine q_callVi hE (M' := mX12_readPart) (as := [_, _, _]) dX12_readAlp_27 lk12_249 inX12_readPart seX12_readPart myX12_readPart (by decide) ⟨by decide, by decide⟩ rfl (kR15 hS5464.1 ta0) (Nat.le_of_ble_eq_true rfl) rfl rfl (by decide) (by decide) (k_X12_readPart hS5464.1 ta0 (by decide)) ?_
    rintro v5492 cn' K' N' I5488 R5489 L5490 ⟨rfl, rfl, rfl, rfl, g5491, p5493, w5494, -⟩
    have hS5495 := hS5464.tr g5491 (by decide +kernel) (by decide +kernel)
    have c5496 : I5488 a1 0 = v29 := (g5491.cell ta1 (by decide +kernel)).trans c5465
    have c5497 : I5488 a1 1 = v33 := (g5491.cell ta1 (by decide +kernel)).trans c5466
    have b5498 : 10 ≤ v5492.toInt ∧ v5492.toInt ≤ 240 := by omega
    clear p5493
    have hO5499 : FrO 14 a1 T I0 I5488 := hO5475.st g5491 (by decide +kernel)
    have ov5500 := w5494.over (by rw [c5478]; omega)
    obtain ⟨v5501, c5502⟩ : ∃ v, I5488 a0 9 = v := ⟨_, rfl⟩
    have b5503 := iv15_9 hS5495.1 ta0 c5502
    obtain ⟨v5504, c5505⟩ : ∃ v, I5488 a0 13 = v := ⟨_, rfl⟩
    obtain ⟨v5506, c5507⟩ : ∃ v, I5488 a0 14 = v := ⟨_, rfl⟩
    (try rw [c5502] at ov5500)
    (try rw [c5505] at ov5500)
    (try rw [c5507] at ov5500)
    (try rw [c5478] at ov5500)
    (try rw [c5481] at ov5500)
    (try rw [c5483] at ov5500)
    refine tr_istore_n dX12_readAlp_30 (by decide) (by decide) ?_
    refine tr_aload_n dX12_readAlp_31 rfl ?_
    refine tr_ldcS dX12_readAlp_32 ld12_253 ?_
    refine q_iconst dX12_readAlp_34 (by decide) ?_
    intro v5508 h5509
    refine q_iconst dX12_readAlp_35 (by decide) ?_
    intro v5510 h5511
    refine q_callVi hE (M' := mX12_readPart) (as := [_, _, _]) dX12_readAlp_36 lk12_249 inX12_readPart seX12_readPart myX12_readPart (by decide) ⟨by decide, by decide⟩ rfl (kR15 hS5495.1 ta0) (Nat.le_of_ble_eq_true rfl) rfl rfl (by decide) (by decide) (k_X12_readPart hS5495.1 ta0 (by decide)) ?_
    rintro v5516 cn' K' N' I5512 R5513 L5514 ⟨rfl, rfl, rfl, rfl, g5515, p5517, w5518, -⟩
    have hS5519 := hS5495.tr g5515 (by decide +kernel) (by decide +kernel)
    have c5520 : I5512 a1 0 = v29 := (g5515.cell ta1 (by decide +kernel)).trans c5496
    have c5521 : I5512 a1 1 = v33 := (g5515.cell ta1 (by decide +kernel)).trans c5497
    have b5522 : 1 ≤ v5516.toInt ∧ v5516.toInt ≤ 4 := by omega
    clear p5517
    have hO5523 : FrO 14 a1 T I0 I5512 := hO5499.st g5515 (by decide +kernel)
    have ov5524 := w5518.over (by rw [c5502]; omega)
    obtain ⟨v5525, c5526⟩ : ∃ v, I5512 a0 9 = v := ⟨_, rfl⟩
    have b5527 := iv15_9 hS5519.1 ta0 c5526
    obtain ⟨v5528, c5529⟩ : ∃ v, I5512 a0 13 = v := ⟨_, rfl⟩
    obtain ⟨v5530, c5531⟩ : ∃ v, I5512 a0 14 = v := ⟨_, rfl⟩
    (try rw [c5526] at ov5524)
    (try rw [c5529] at ov5524)
    (try rw [c5531] at ov5524)
    (try rw [c5502] at ov5524)
    (try rw [c5505] at ov5524)
    (try rw [c5507] at ov5524)
    refine tr_istore_n dX12_readAlp_39 (by decide) (by decide) ?_
    refine tr_aload_n dX12_readAlp_40 rfl ?_
    refine tr_ldcS dX12_readAlp_41 ld12_255 ?_
    refine q_callVv hE (M' := mX12_needs) (as := [_]) dX12_readAlp_43 lk12_157 inX12_needs seX12_needs myX12_needs (by decide) ⟨by decide, by decide⟩ rfl (kR15 hS5519.1 ta0) (Nat.le_of_ble_eq_true rfl) rfl rfl (by decide) (by decide) (k_X12_needs hS5519.1 ta0 (by decide)) ?_
    rintro cn' K' N' I5532 R5533 L5534 ⟨rfl, rfl, rfl, rfl, g5535, w5537, -⟩
    have hS5538 := hS5519.tr g5535 (by decide +kernel) (by decide +kernel)
    have c5539 : I5532 a1 0 = v29 := (g5535.cell ta1 (by decide +kernel)).trans c5520
    have c5540 : I5532 a1 1 = v33 := (g5535.cell ta1 (by decide +kernel)).trans c5521
    have hO5541 : FrO 14 a1 T I0 I5532 := hO5523.st g5535 (by decide +kernel)
    have ov5542 := w5537.over (by rw [c5526]; omega)
    obtain ⟨v5543, c5544⟩ : ∃ v, I5532 a0 9 = v := ⟨_, rfl⟩
    have b5545 := iv15_9 hS5538.1 ta0 c5544
    obtain ⟨v5546, c5547⟩ : ∃ v, I5532 a0 13 = v := ⟨_, rfl⟩
    obtain ⟨v5548, c5549⟩ : ∃ v, I5532 a0 14 = v := ⟨_, rfl⟩
    (try rw [c5544] at ov5542)
    (try rw [c5547] at ov5542)
    (try rw [c5549] at ov5542)
    (try rw [c5526] at ov5542)
    (try rw [c5529] at ov5542)
    (try rw [c5531] at ov5542)
    refine q_iconst dX12_readAlp_46 (by decide) ?_
    intro v5550 h5551
    refine tr_istore_n dX12_readAlp_47 (by decide) (by decide) ?_
    refine tr_iload_n dX12_readAlp_48 rfl ?_
    refine q_iconst dX12_readAlp_49 (by decide) ?_
    intro v5552 h5553
    refine q_icmp_ge 85 dX12_readAlp_50 (by decide) (fun h5554 => ?_) (fun h5554 => ?_)
    · skip
      exfalso; omega
    · skip
      refine tr_iload_n dX12_readAlp_53 rfl ?_
      refine q_if_le 63 dX12_readAlp_54 (by decide) (fun h5555 => ?_) (fun h5555 => ?_)
      · skip
        refine tr_aload_n dX12_readAlp_63 rfl ?_
        refine tr_getR dX12_readAlp_64 fl12_188 (kR15 hS5538.1 ta0) d2 ?_
        refine tr_getR dX12_readAlp_67 fl12_260 (kR14 hS5538.1 ta1) d67 ?_
        refine tr_iload_n dX12_readAlp_70 rfl ?_
        refine tr_aload_n dX12_readAlp_71 rfl ?_
        refine q_iconst dX12_readAlp_72 (by decide) ?_
        intro v5556 h5557
        refine q_bipush dX12_readAlp_73 (by decide +kernel) ?_
        intro v5558 h5559
        refine q_callVi hE (M' := mX12_readWhole) (as := [_, _]) dX12_readAlp_75 lk12_161 inX12_readWhole seX12_readWhole myX12_readWhole (by decide) ⟨by decide, by decide⟩ rfl (kR15 hS5538.1 ta0) (Nat.le_of_ble_eq_true rfl) rfl rfl (by decide) (by decide) (k_X12_readWhole hS5538.1 ta0) ?_
        rintro v5564 cn' K' N' I5560 R5561 L5562 ⟨rfl, rfl, rfl, rfl, g5563, p5565, w5566, -⟩
        have hS5567 := hS5538.tr g5563 (by decide +kernel) (by decide +kernel)
        have c5568 : I5560 a1 0 = v29 := (g5563.cell ta1 (by decide +kernel)).trans c5539
        have c5569 : I5560 a1 1 = v33 := (g5563.cell ta1 (by decide +kernel)).trans c5540
        have b5570 : 0 ≤ v5564.toInt ∧ v5564.toInt ≤ 99 := by omega
        clear p5565
        have hO5571 : FrO 14 a1 T I0 I5560 := hO5541.st g5563 (by decide +kernel)
        have ov5572 := w5566.over (by rw [c5544]; omega)
        obtain ⟨v5573, c5574⟩ : ∃ v, I5560 a0 9 = v := ⟨_, rfl⟩
        have b5575 := iv15_9 hS5567.1 ta0 c5574
        obtain ⟨v5576, c5577⟩ : ∃ v, I5560 a0 13 = v := ⟨_, rfl⟩
        obtain ⟨v5578, c5579⟩ : ∃ v, I5560 a0 14 = v := ⟨_, rfl⟩
        (try rw [c5574] at ov5572)
        (try rw [c5577] at ov5572)
        (try rw [c5579] at ov5572)
        (try rw [c5544] at ov5572)
        (try rw [c5547] at ov5572)
        (try rw [c5549] at ov5572)
        refine q_iast dX12_readAlp_78 (kR53 hS5567.1 ta66) (ti_in (nR53 hS5567.1 ta66) (by omega) (by omega)) hS5567 ta66 (iokF rfl) rfl (by rfl) ?_
        intro I5580 hS5581 e5583 f5582
        have c5584 : I5580 a1 0 = v29 := (f5582 _ _ (fun q => by have z := ta1; rw [q.1, ta66] at z; exact absurd z (by decide))).trans c5568
        have c5585 : I5580 a1 1 = v33 := (f5582 _ _ (fun q => by have z := ta1; rw [q.1, ta66] at z; exact absurd z (by decide))).trans c5569
        have c5586 : I5580 a0 9 = v5573 := (f5582 _ _ (fun q => by have z := ta0; rw [q.1, ta66] at z; exact absurd z (by decide))).trans c5574
        have c5587 : I5580 a0 13 = v5576 := (f5582 _ _ (fun q => by have z := ta0; rw [q.1, ta66] at z; exact absurd z (by decide))).trans c5577
        have c5588 : I5580 a0 14 = v5578 := (f5582 _ _ (fun q => by have z := ta0; rw [q.1, ta66] at z; exact absurd z (by decide))).trans c5579
        have hO5589 : FrO 14 a1 T I0 I5580 := hO5571.put f5582 ta66 (Or.inl (by decide))
        refine q_iincE dX12_readAlp_79 rfl (by decide) (by decide) (by intros; omega) ?_
        intro v5590 h5591
        refine tr_goto 48 dX12_readAlp_82 (by decide) ?_
        refine tr_iload_n dX12_readAlp_48 rfl ?_
        refine q_iconst dX12_readAlp_49 (by decide) ?_
        intro v5592 h5593
        refine q_icmp_ge 85 dX12_readAlp_50 (by decide) (fun h5594 => ?_) (fun h5594 => ?_)
        · skip
          exfalso; omega
        · skip
          refine tr_iload_n dX12_readAlp_53 rfl ?_
          refine q_if_le 63 dX12_readAlp_54 (by decide) (fun h5595 => ?_) (fun h5595 => ?_)
          · skip
            exfalso; omega
          · skip
            refine tr_aload_n dX12_readAlp_57 rfl ?_
            refine q_bipush dX12_readAlp_58 (by decide +kernel) ?_
            intro v5596 h5597
            refine q_callVv hE (M' := mX12_needsSign) (as := [_]) dX12_readAlp_60 lk12_257 inX12_needsSign seX12_needsSign myX12_needsSign (by decide) ⟨by decide, by decide⟩ rfl (kR15 hS5581.1 ta0) (Nat.le_of_ble_eq_true rfl) rfl rfl (by decide) (by decide) (k_X12_needsSign hS5581.1 ta0) ?_
            rintro cn' K' N' I5598 R5599 L5600 ⟨rfl, rfl, rfl, rfl, g5601, w5603, -⟩
            have hS5604 := hS5581.tr g5601 (by decide +kernel) (by decide +kernel)
            have c5605 : I5598 a1 0 = v29 := (g5601.cell ta1 (by decide +kernel)).trans c5584
            have c5606 : I5598 a1 1 = v33 := (g5601.cell ta1 (by decide +kernel)).trans c5585
            have hO5607 : FrO 14 a1 T I0 I5598 := hO5589.st g5601 (by decide +kernel)
            have ov5608 := w5603.over (by rw [c5586]; omega)
            obtain ⟨v5609, c5610⟩ : ∃ v, I5598 a0 9 = v := ⟨_, rfl⟩
            have b5611 := iv15_9 hS5604.1 ta0 c5610
            obtain ⟨v5612, c5613⟩ : ∃ v, I5598 a0 13 = v := ⟨_, rfl⟩
            obtain ⟨v5614, c5615⟩ : ∃ v, I5598 a0 14 = v := ⟨_, rfl⟩
            (try rw [c5610] at ov5608)
            (try rw [c5613] at ov5608)
            (try rw [c5615] at ov5608)
            (try rw [c5586] at ov5608)
            (try rw [c5587] at ov5608)
            (try rw [c5588] at ov5608)
            refine tr_aload_n dX12_readAlp_63 rfl ?_
            refine tr_getR dX12_readAlp_64 fl12_188 (kR15 hS5604.1 ta0) d2 ?_
            refine tr_getR dX12_readAlp_67 fl12_260 (kR14 hS5604.1 ta1) d67 ?_
            refine tr_iload_n dX12_readAlp_70 rfl ?_
            refine tr_aload_n dX12_readAlp_71 rfl ?_
            refine q_iconst dX12_readAlp_72 (by decide) ?_
            intro v5616 h5617
            refine q_bipush dX12_readAlp_73 (by decide +kernel) ?_
            intro v5618 h5619
            refine q_callVi hE (M' := mX12_readWhole) (as := [_, _]) dX12_readAlp_75 lk12_161 inX12_readWhole seX12_readWhole myX12_readWhole (by decide) ⟨by decide, by decide⟩ rfl (kR15 hS5604.1 ta0) (Nat.le_of_ble_eq_true rfl) rfl rfl (by decide) (by decide) (k_X12_readWhole hS5604.1 ta0) ?_
            rintro v5624 cn' K' N' I5620 R5621 L5622 ⟨rfl, rfl, rfl, rfl, g5623, p5625, w5626, -⟩
            have hS5627 := hS5604.tr g5623 (by decide +kernel) (by decide +kernel)
            have c5628 : I5620 a1 0 = v29 := (g5623.cell ta1 (by decide +kernel)).trans c5605
            have c5629 : I5620 a1 1 = v33 := (g5623.cell ta1 (by decide +kernel)).trans c5606
            have b5630 : 0 ≤ v5624.toInt ∧ v5624.toInt ≤ 99 := by omega
            clear p5625
            have hO5631 : FrO 14 a1 T I0 I5620 := hO5607.st g5623 (by decide +kernel)
            have ov5632 := w5626.over (by rw [c5610]; omega)
            obtain ⟨v5633, c5634⟩ : ∃ v, I5620 a0 9 = v := ⟨_, rfl⟩
            have b5635 := iv15_9 hS5627.1 ta0 c5634
            obtain ⟨v5636, c5637⟩ : ∃ v, I5620 a0 13 = v := ⟨_, rfl⟩
            obtain ⟨v5638, c5639⟩ : ∃ v, I5620 a0 14 = v := ⟨_, rfl⟩
            (try rw [c5634] at ov5632)
            (try rw [c5637] at ov5632)
            (try rw [c5639] at ov5632)
            (try rw [c5610] at ov5632)
            (try rw [c5613] at ov5632)
            (try rw [c5615] at ov5632)
            refine q_iast dX12_readAlp_78 (kR53 hS5627.1 ta66) (ti_in (nR53 hS5627.1 ta66) (by omega) (by omega)) hS5627 ta66 (iokF rfl) rfl (by rfl) ?_
            intro I5640 hS5641 e5643 f5642
            have c5644 : I5640 a1 0 = v29 := (f5642 _ _ (fun q => by have z := ta1; rw [q.1, ta66] at z; exact absurd z (by decide))).trans c5628
            have c5645 : I5640 a1 1 = v33 := (f5642 _ _ (fun q => by have z := ta1; rw [q.1, ta66] at z; exact absurd z (by decide))).trans c5629
            have c5646 : I5640 a0 9 = v5633 := (f5642 _ _ (fun q => by have z := ta0; rw [q.1, ta66] at z; exact absurd z (by decide))).trans c5634
            have c5647 : I5640 a0 13 = v5636 := (f5642 _ _ (fun q => by have z := ta0; rw [q.1, ta66] at z; exact absurd z (by decide))).trans c5637
            have c5648 : I5640 a0 14 = v5638 := (f5642 _ _ (fun q => by have z := ta0; rw [q.1, ta66] at z; exact absurd z (by decide))).trans c5639
            have hO5649 : FrO 14 a1 T I0 I5640 := hO5631.put f5642 ta66 (Or.inl (by decide))
            refine q_iincE dX12_readAlp_79 rfl (by decide) (by decide) (by intros; omega) ?_
            intro v5650 h5651
            refine tr_goto 48 dX12_readAlp_82 (by decide) ?_
            refine tr_iload_n dX12_readAlp_48 rfl ?_
            refine q_iconst dX12_readAlp_49 (by decide) ?_
            intro v5652 h5653
            refine q_icmp_ge 85 dX12_readAlp_50 (by decide) (fun h5654 => ?_) (fun h5654 => ?_)
            · skip
              exfalso; omega
            · skip
              refine tr_iload_n dX12_readAlp_53 rfl ?_
              refine q_if_le 63 dX12_readAlp_54 (by decide) (fun h5655 => ?_) (fun h5655 => ?_)
              · skip
                exfalso; omega
              · skip
                refine tr_aload_n dX12_readAlp_57 rfl ?_
                refine q_bipush dX12_readAlp_58 (by decide +kernel) ?_
                intro v5656 h5657
                refine q_callVv hE (M' := mX12_needsSign) (as := [_]) dX12_readAlp_60 lk12_257 inX12_needsSign seX12_needsSign myX12_needsSign (by decide) ⟨by decide, by decide⟩ rfl (kR15 hS5641.1 ta0) (Nat.le_of_ble_eq_true rfl) rfl rfl (by decide) (by decide) (k_X12_needsSign hS5641.1 ta0) ?_
                rintro cn' K' N' I5658 R5659 L5660 ⟨rfl, rfl, rfl, rfl, g5661, w5663, -⟩
                have hS5664 := hS5641.tr g5661 (by decide +kernel) (by decide +kernel)
                have c5665 : I5658 a1 0 = v29 := (g5661.cell ta1 (by decide +kernel)).trans c5644
                have c5666 : I5658 a1 1 = v33 := (g5661.cell ta1 (by decide +kernel)).trans c5645
                have hO5667 : FrO 14 a1 T I0 I5658 := hO5649.st g5661 (by decide +kernel)
                have ov5668 := w5663.over (by rw [c5646]; omega)
                obtain ⟨v5669, c5670⟩ : ∃ v, I5658 a0 9 = v := ⟨_, rfl⟩
                have b5671 := iv15_9 hS5664.1 ta0 c5670
                obtain ⟨v5672, c5673⟩ : ∃ v, I5658 a0 13 = v := ⟨_, rfl⟩
                obtain ⟨v5674, c5675⟩ : ∃ v, I5658 a0 14 = v := ⟨_, rfl⟩
                (try rw [c5670] at ov5668)
                (try rw [c5673] at ov5668)
                (try rw [c5675] at ov5668)
                (try rw [c5646] at ov5668)
                (try rw [c5647] at ov5668)
                (try rw [c5648] at ov5668)
                refine tr_aload_n dX12_readAlp_63 rfl ?_
                refine tr_getR dX12_readAlp_64 fl12_188 (kR15 hS5664.1 ta0) d2 ?_
                refine tr_getR dX12_readAlp_67 fl12_260 (kR14 hS5664.1 ta1) d67 ?_
                refine tr_iload_n dX12_readAlp_70 rfl ?_
                refine tr_aload_n dX12_readAlp_71 rfl ?_
                refine q_iconst dX12_readAlp_72 (by decide) ?_
                intro v5676 h5677
                refine q_bipush dX12_readAlp_73 (by decide +kernel) ?_
                intro v5678 h5679
                refine q_callVi hE (M' := mX12_readWhole) (as := [_, _]) dX12_readAlp_75 lk12_161 inX12_readWhole seX12_readWhole myX12_readWhole (by decide) ⟨by decide, by decide⟩ rfl (kR15 hS5664.1 ta0) (Nat.le_of_ble_eq_true rfl) rfl rfl (by decide) (by decide) (k_X12_readWhole hS5664.1 ta0) ?_
                rintro v5684 cn' K' N' I5680 R5681 L5682 ⟨rfl, rfl, rfl, rfl, g5683, p5685, w5686, -⟩
                have hS5687 := hS5664.tr g5683 (by decide +kernel) (by decide +kernel)
                have c5688 : I5680 a1 0 = v29 := (g5683.cell ta1 (by decide +kernel)).trans c5665
                have c5689 : I5680 a1 1 = v33 := (g5683.cell ta1 (by decide +kernel)).trans c5666
                have b5690 : 0 ≤ v5684.toInt ∧ v5684.toInt ≤ 99 := by omega
                clear p5685
                have hO5691 : FrO 14 a1 T I0 I5680 := hO5667.st g5683 (by decide +kernel)
                have ov5692 := w5686.over (by rw [c5670]; omega)
                obtain ⟨v5693, c5694⟩ : ∃ v, I5680 a0 9 = v := ⟨_, rfl⟩
                have b5695 := iv15_9 hS5687.1 ta0 c5694
                obtain ⟨v5696, c5697⟩ : ∃ v, I5680 a0 13 = v := ⟨_, rfl⟩
                obtain ⟨v5698, c5699⟩ : ∃ v, I5680 a0 14 = v := ⟨_, rfl⟩
                (try rw [c5694] at ov5692)
                (try rw [c5697] at ov5692)
                (try rw [c5699] at ov5692)
                (try rw [c5670] at ov5692)
                (try rw [c5673] at ov5692)
                (try rw [c5675] at ov5692)
                refine q_iast dX12_readAlp_78 (kR53 hS5687.1 ta66) (ti_in (nR53 hS5687.1 ta66) (by omega) (by omega)) hS5687 ta66 (iokF rfl) rfl (by rfl) ?_
                intro I5700 hS5701 e5703 f5702
                have c5704 : I5700 a1 0 = v29 := (f5702 _ _ (fun q => by have z := ta1; rw [q.1, ta66] at z; exact absurd z (by decide))).trans c5688
                have c5705 : I5700 a1 1 = v33 := (f5702 _ _ (fun q => by have z := ta1; rw [q.1, ta66] at z; exact absurd z (by decide))).trans c5689
                have c5706 : I5700 a0 9 = v5693 := (f5702 _ _ (fun q => by have z := ta0; rw [q.1, ta66] at z; exact absurd z (by decide))).trans c5694
                have c5707 : I5700 a0 13 = v5696 := (f5702 _ _ (fun q => by have z := ta0; rw [q.1, ta66] at z; exact absurd z (by decide))).trans c5697
                have c5708 : I5700 a0 14 = v5698 := (f5702 _ _ (fun q => by have z := ta0; rw [q.1, ta66] at z; exact absurd z (by decide))).trans c5699
                have hO5709 : FrO 14 a1 T I0 I5700 := hO5691.put f5702 ta66 (Or.inl (by decide))
                refine q_iincE dX12_readAlp_79 rfl (by decide) (by decide) (by intros; omega) ?_
                intro v5710 h5711
                refine tr_goto 48 dX12_readAlp_82 (by decide) ?_
                refine tr_iload_n dX12_readAlp_48 rfl ?_
                refine q_iconst dX12_readAlp_49 (by decide) ?_
                intro v5712 h5713
                refine q_icmp_ge 85 dX12_readAlp_50 (by decide) (fun h5714 => ?_) (fun h5714 => ?_)
                · skip
                  exfalso; omega
                · skip
                  refine tr_iload_n dX12_readAlp_53 rfl ?_
                  refine q_if_le 63 dX12_readAlp_54 (by decide) (fun h5715 => ?_) (fun h5715 => ?_)
                  · skip
                    exfalso; omega
                  · skip
                    refine tr_aload_n dX12_readAlp_57 rfl ?_
                    refine q_bipush dX12_readAlp_58 (by decide +kernel) ?_
                    intro v5716 h5717
                    refine q_callVv hE (M' := mX12_needsSign) (as := [_]) dX12_readAlp_60 lk12_257 inX12_needsSign seX12_needsSign myX12_needsSign (by decide) ⟨by decide, by decide⟩ rfl (kR15 hS5701.1 ta0) (Nat.le_of_ble_eq_true rfl) rfl rfl (by decide) (by decide) (k_X12_needsSign hS5701.1 ta0) ?_
                    rintro cn' K' N' I5718 R5719 L5720 ⟨rfl, rfl, rfl, rfl, g5721, w5723, -⟩
                    have hS5724 := hS5701.tr g5721 (by decide +kernel) (by decide +kernel)
                    have c5725 : I5718 a1 0 = v29 := (g5721.cell ta1 (by decide +kernel)).trans c5704
                    have c5726 : I5718 a1 1 = v33 := (g5721.cell ta1 (by decide +kernel)).trans c5705
                    have hO5727 : FrO 14 a1 T I0 I5718 := hO5709.st g5721 (by decide +kernel)
                    have ov5728 := w5723.over (by rw [c5706]; omega)
                    obtain ⟨v5729, c5730⟩ : ∃ v, I5718 a0 9 = v := ⟨_, rfl⟩
                    have b5731 := iv15_9 hS5724.1 ta0 c5730
                    obtain ⟨v5732, c5733⟩ : ∃ v, I5718 a0 13 = v := ⟨_, rfl⟩
                    obtain ⟨v5734, c5735⟩ : ∃ v, I5718 a0 14 = v := ⟨_, rfl⟩
                    (try rw [c5730] at ov5728)
                    (try rw [c5733] at ov5728)
                    (try rw [c5735] at ov5728)
                    (try rw [c5706] at ov5728)
                    (try rw [c5707] at ov5728)
                    (try rw [c5708] at ov5728)
                    refine tr_aload_n dX12_readAlp_63 rfl ?_
                    refine tr_getR dX12_readAlp_64 fl12_188 (kR15 hS5724.1 ta0) d2 ?_
                    refine tr_getR dX12_readAlp_67 fl12_260 (kR14 hS5724.1 ta1) d67 ?_
                    refine tr_iload_n dX12_readAlp_70 rfl ?_
                    refine tr_aload_n dX12_readAlp_71 rfl ?_
                    refine q_iconst dX12_readAlp_72 (by decide) ?_
                    intro v5736 h5737
                    refine q_bipush dX12_readAlp_73 (by decide +kernel) ?_
                    intro v5738 h5739
                    refine q_callVi hE (M' := mX12_readWhole) (as := [_, _]) dX12_readAlp_75 lk12_161 inX12_readWhole seX12_readWhole myX12_readWhole (by decide) ⟨by decide, by decide⟩ rfl (kR15 hS5724.1 ta0) (Nat.le_of_ble_eq_true rfl) rfl rfl (by decide) (by decide) (k_X12_readWhole hS5724.1 ta0) ?_
                    rintro v5744 cn' K' N' I5740 R5741 L5742 ⟨rfl, rfl, rfl, rfl, g5743, p5745, w5746, -⟩
                    have hS5747 := hS5724.tr g5743 (by decide +kernel) (by decide +kernel)
                    have c5748 : I5740 a1 0 = v29 := (g5743.cell ta1 (by decide +kernel)).trans c5725
                    have c5749 : I5740 a1 1 = v33 := (g5743.cell ta1 (by decide +kernel)).trans c5726
                    have b5750 : 0 ≤ v5744.toInt ∧ v5744.toInt ≤ 99 := by omega
                    clear p5745
                    have hO5751 : FrO 14 a1 T I0 I5740 := hO5727.st g5743 (by decide +kernel)
                    have ov5752 := w5746.over (by rw [c5730]; omega)
                    obtain ⟨v5753, c5754⟩ : ∃ v, I5740 a0 9 = v := ⟨_, rfl⟩
                    have b5755 := iv15_9 hS5747.1 ta0 c5754
                    obtain ⟨v5756, c5757⟩ : ∃ v, I5740 a0 13 = v := ⟨_, rfl⟩
                    obtain ⟨v5758, c5759⟩ : ∃ v, I5740 a0 14 = v := ⟨_, rfl⟩
                    (try rw [c5754] at ov5752)
                    (try rw [c5757] at ov5752)
                    (try rw [c5759] at ov5752)
                    (try rw [c5730] at ov5752)
                    (try rw [c5733] at ov5752)
                    (try rw [c5735] at ov5752)
                    refine q_iast dX12_readAlp_78 (kR53 hS5747.1 ta66) (ti_in (nR53 hS5747.1 ta66) (by omega) (by omega)) hS5747 ta66 (iokF rfl) rfl (by rfl) ?_
                    intro I5760 hS5761 e5763 f5762
                    have c5764 : I5760 a1 0 = v29 := (f5762 _ _ (fun q => by have z := ta1; rw [q.1, ta66] at z; exact absurd z (by decide))).trans c5748
                    have c5765 : I5760 a1 1 = v33 := (f5762 _ _ (fun q => by have z := ta1; rw [q.1, ta66] at z; exact absurd z (by decide))).trans c5749
                    have c5766 : I5760 a0 9 = v5753 := (f5762 _ _ (fun q => by have z := ta0; rw [q.1, ta66] at z; exact absurd z (by decide))).trans c5754
                    have c5767 : I5760 a0 13 = v5756 := (f5762 _ _ (fun q => by have z := ta0; rw [q.1, ta66] at z; exact absurd z (by decide))).trans c5757
                    have c5768 : I5760 a0 14 = v5758 := (f5762 _ _ (fun q => by have z := ta0; rw [q.1, ta66] at z; exact absurd z (by decide))).trans c5759
                    have hO5769 : FrO 14 a1 T I0 I5760 := hO5751.put f5762 ta66 (Or.inl (by decide))
                    refine q_iincE dX12_readAlp_79 rfl (by decide) (by decide) (by intros; omega) ?_
                    intro v5770 h5771
                    refine tr_goto 48 dX12_readAlp_82 (by decide) ?_
                    refine tr_iload_n dX12_readAlp_48 rfl ?_
                    refine q_iconst dX12_readAlp_49 (by decide) ?_
                    intro v5772 h5773
                    refine q_icmp_ge 85 dX12_readAlp_50 (by decide) (fun h5774 => ?_) (fun h5774 => ?_)
                    · skip
                      exfalso; omega
                    · skip
                      refine tr_iload_n dX12_readAlp_53 rfl ?_
                      refine q_if_le 63 dX12_readAlp_54 (by decide) (fun h5775 => ?_) (fun h5775 => ?_)
                      · skip
                        exfalso; omega
                      · skip
                        refine tr_aload_n dX12_readAlp_57 rfl ?_
                        refine q_bipush dX12_readAlp_58 (by decide +kernel) ?_
                        intro v5776 h5777
                        refine q_callVv hE (M' := mX12_needsSign) (as := [_]) dX12_readAlp_60 lk12_257 inX12_needsSign seX12_needsSign myX12_needsSign (by decide) ⟨by decide, by decide⟩ rfl (kR15 hS5761.1 ta0) (Nat.le_of_ble_eq_true rfl) rfl rfl (by decide) (by decide) (k_X12_needsSign hS5761.1 ta0) ?_
                        rintro cn' K' N' I5778 R5779 L5780 ⟨rfl, rfl, rfl, rfl, g5781, w5783, -⟩
                        have hS5784 := hS5761.tr g5781 (by decide +kernel) (by decide +kernel)
                        have c5785 : I5778 a1 0 = v29 := (g5781.cell ta1 (by decide +kernel)).trans c5764
                        have c5786 : I5778 a1 1 = v33 := (g5781.cell ta1 (by decide +kernel)).trans c5765
                        have hO5787 : FrO 14 a1 T I0 I5778 := hO5769.st g5781 (by decide +kernel)
                        have ov5788 := w5783.over (by rw [c5766]; omega)
                        obtain ⟨v5789, c5790⟩ : ∃ v, I5778 a0 9 = v := ⟨_, rfl⟩
                        have b5791 := iv15_9 hS5784.1 ta0 c5790
                        obtain ⟨v5792, c5793⟩ : ∃ v, I5778 a0 13 = v := ⟨_, rfl⟩
                        obtain ⟨v5794, c5795⟩ : ∃ v, I5778 a0 14 = v := ⟨_, rfl⟩
                        (try rw [c5790] at ov5788)
                        (try rw [c5793] at ov5788)
                        (try rw [c5795] at ov5788)
                        (try rw [c5766] at ov5788)
                        (try rw [c5767] at ov5788)
                        (try rw [c5768] at ov5788)
                        refine tr_aload_n dX12_readAlp_63 rfl ?_
                        refine tr_getR dX12_readAlp_64 fl12_188 (kR15 hS5784.1 ta0) d2 ?_
                        refine tr_getR dX12_readAlp_67 fl12_260 (kR14 hS5784.1 ta1) d67 ?_
                        refine tr_iload_n dX12_readAlp_70 rfl ?_
                        refine tr_aload_n dX12_readAlp_71 rfl ?_
                        refine q_iconst dX12_readAlp_72 (by decide) ?_
                        intro v5796 h5797
                        refine q_bipush dX12_readAlp_73 (by decide +kernel) ?_
                        intro v5798 h5799
                        refine q_callVi hE (M' := mX12_readWhole) (as := [_, _]) dX12_readAlp_75 lk12_161 inX12_readWhole seX12_readWhole myX12_readWhole (by decide) ⟨by decide, by decide⟩ rfl (kR15 hS5784.1 ta0) (Nat.le_of_ble_eq_true rfl) rfl rfl (by decide) (by decide) (k_X12_readWhole hS5784.1 ta0) ?_
                        rintro v5804 cn' K' N' I5800 R5801 L5802 ⟨rfl, rfl, rfl, rfl, g5803, p5805, w5806, -⟩
                        have hS5807 := hS5784.tr g5803 (by decide +kernel) (by decide +kernel)
                        have c5808 : I5800 a1 0 = v29 := (g5803.cell ta1 (by decide +kernel)).trans c5785
                        have c5809 : I5800 a1 1 = v33 := (g5803.cell ta1 (by decide +kernel)).trans c5786
                        have b5810 : 0 ≤ v5804.toInt ∧ v5804.toInt ≤ 99 := by omega
                        clear p5805
                        have hO5811 : FrO 14 a1 T I0 I5800 := hO5787.st g5803 (by decide +kernel)
                        have ov5812 := w5806.over (by rw [c5790]; omega)
                        obtain ⟨v5813, c5814⟩ : ∃ v, I5800 a0 9 = v := ⟨_, rfl⟩
                        have b5815 := iv15_9 hS5807.1 ta0 c5814
                        obtain ⟨v5816, c5817⟩ : ∃ v, I5800 a0 13 = v := ⟨_, rfl⟩
                        obtain ⟨v5818, c5819⟩ : ∃ v, I5800 a0 14 = v := ⟨_, rfl⟩
                        (try rw [c5814] at ov5812)
                        (try rw [c5817] at ov5812)
                        (try rw [c5819] at ov5812)
                        (try rw [c5790] at ov5812)
                        (try rw [c5793] at ov5812)
                        (try rw [c5795] at ov5812)
                        refine q_iast dX12_readAlp_78 (kR53 hS5807.1 ta66) (ti_in (nR53 hS5807.1 ta66) (by omega) (by omega)) hS5807 ta66 (iokF rfl) rfl (by rfl) ?_
                        intro I5820 hS5821 e5823 f5822
                        have c5824 : I5820 a1 0 = v29 := (f5822 _ _ (fun q => by have z := ta1; rw [q.1, ta66] at z; exact absurd z (by decide))).trans c5808
                        have c5825 : I5820 a1 1 = v33 := (f5822 _ _ (fun q => by have z := ta1; rw [q.1, ta66] at z; exact absurd z (by decide))).trans c5809
                        have c5826 : I5820 a0 9 = v5813 := (f5822 _ _ (fun q => by have z := ta0; rw [q.1, ta66] at z; exact absurd z (by decide))).trans c5814
                        have c5827 : I5820 a0 13 = v5816 := (f5822 _ _ (fun q => by have z := ta0; rw [q.1, ta66] at z; exact absurd z (by decide))).trans c5817
                        have c5828 : I5820 a0 14 = v5818 := (f5822 _ _ (fun q => by have z := ta0; rw [q.1, ta66] at z; exact absurd z (by decide))).trans c5819
                        have hO5829 : FrO 14 a1 T I0 I5820 := hO5811.put f5822 ta66 (Or.inl (by decide))
                        refine q_iincE dX12_readAlp_79 rfl (by decide) (by decide) (by intros; omega) ?_
                        intro v5830 h5831
                        refine tr_goto 48 dX12_readAlp_82 (by decide) ?_
                        refine tr_iload_n dX12_readAlp_48 rfl ?_
                        refine q_iconst dX12_readAlp_49 (by decide) ?_
                        intro v5832 h5833
                        refine q_icmp_ge 85 dX12_readAlp_50 (by decide) (fun h5834 => ?_) (fun h5834 => ?_)
                        · skip
                          refine tr_aload_n dX12_readAlp_85 rfl ?_
                          refine q_getI dX12_readAlp_86 fl12_99 (kR15 hS5821.1 ta0) c5826 ?_
                          refine q_iconst dX12_readAlp_89 (by decide) ?_
                          intro v5835 h5836
                          refine q_icmp_ne 94 dX12_readAlp_90 (by decide) (fun h5837 => ?_) (fun h5837 => ?_)
                          · skip
                            exfalso; omega
                          · skip
                            have eF := hF.eq
                            have eP := hP.eq
                            obtain ⟨v5838, c5839⟩ : ∃ v, I5820 a0 10 = v := ⟨_, rfl⟩
                            have b5840 := iv15_10 hS5821.1 ta0 c5839
                            obtain ⟨v5841, c5842⟩ : ∃ v, I5820 a0 11 = v := ⟨_, rfl⟩
                            obtain ⟨y5843, c5844⟩ : ∃ v, L5802 a0 15 = v := ⟨_, rfl⟩
                            obtain ⟨v5845, c5846⟩ : ∃ v, I5820 a0 12 = v := ⟨_, rfl⟩
                            obtain ⟨v5847, c5848⟩ : ∃ v, I5820 a0 8 = v := ⟨_, rfl⟩
                            have b5849 := iv15_8 hS5821.1 ta0 c5848
                            exact tr_vret hZ dX12_readAlp_93 rfl (by decide) (by decide) ⟨rfl, rfl, rfl, rfl, rfl, hS5821, (fun b hb => (Option.some.inj (d2.symm.trans hb)) ▸ ((((((((((((((((((((FrM.rf (R := R0) (b := a1) (T := T)).st g5433 (by decide +kernel)).st g5458 (by decide +kernel)).st g5491 (by decide +kernel)).st g5515 (by decide +kernel)).st g5535 (by decide +kernel)).st g5563 (by decide +kernel)).pu f5582 (by decide) (by decide) d67).st g5601 (by decide +kernel)).st g5623 (by decide +kernel)).pu f5642 (by decide) (by decide) d67).st g5661 (by decide +kernel)).st g5683 (by decide +kernel)).pu f5702 (by decide) (by decide) d67).st g5721 (by decide +kernel)).st g5743 (by decide +kernel)).pu f5762 (by decide) (by decide) d67).st g5781 (by decide +kernel)).st g5803 (by decide +kernel)).pu f5822 (by decide) (by decide) d67)), (fun dr hd => (Option.some.inj (d2.symm.trans hd)) ▸ hO5829), (Or.inr (⟨(by first | done | with_reducible assumption | omega), (by (try rw [c5826]); first | done | with_reducible assumption | omega), (by (try rw [c5827]); first | done | with_reducible assumption | omega), (by (try rw [c5828]); first | done | with_reducible assumption | omega), trivial⟩)), trivial⟩
                        · skip
                          exfalso; omega
      · skip
        exfalso; omega
